abbrev vwCl : List vw_C := [(RX0, TX0, 3), (RX1, TX1, 5), (RX2, TX2, 2), (RX3, TX3, 4), (RX4, TX4, 3), (RX5, TX5, 9), (RX6, TX6, 19)]

