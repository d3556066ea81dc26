/-- ArrayList stands three times, so that the numbers are those of the whole claim -/
abbrev vwCl : List vw_C := [(RJx4a65c, TJx4a65c, 3), (RJx4a65c, TJx4a65c, 3), (RJx4a65c, TJx4a65c, 3), (RX0, TX0, 4), (RX1, TX1, 2), (RX2, TX2, 5), (RX3, TX3, 19), (RX4, TX4, 2), (RX6, TX6, 5), (RX7, TX7, 7), (RX8, TX8, 5)]
