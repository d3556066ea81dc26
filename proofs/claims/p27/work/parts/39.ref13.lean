/-! ===== the reference: mean, digest ===== -/
section DBL
variable {p : Program} {l : Launch} {e : Env} {R : Room} {s : State} {m : MethodId} {args : Array Value} {below : List Frame} {meth : Method} {c : Code} {nL : Nat} {D : mD} {A : Nat → Prop} {Q : State → Prop} {M : Mm} {k n : Nat} {L : List (Nat × Value)} {st : List Value} {pc : Nat} {cc : ByteArray} {Ts : List Cond} {own : String} {y0 : MethodName} {ret0 : Option FieldType}
theorem m_ldc2l (C : mC p m meth c cc nL s args Ts own D A y0 ret0) {index : Nat} {v : Int64} (hc : Cond.constantLong own index v ∈ Ts) (d : decode cc pc = .ok (.ldc2_w index, 3)) (kk : mV p l e R s m args below meth c nL D A Q M k n L (.long v :: st) (pc + 3)) : mV p l e R s m args below meth c nL D A Q M k n L st pc := m_ldc2 C (C.1.2.2.2.2 _ hc) d kk
end DBL
