abbrev vwCl : List vw_C := [(RX0, TX0, 3), (RX1, TX1, 15), (RX2, TX2, 4), (RX3, TX3, 2), (RX4, TX4, 1), (RX5, TX5, 9), (RX6, TX6, 9)]
