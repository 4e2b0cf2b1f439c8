abbrev vwCl : List vw_C := [(RX0, TX0, 6), (RX1, TX1, 8), (RX2, TX2, 2), (RX3, TX3, 8), (RX4, TX4, 3), (RX5, TX5, 5), (RX6, TX6, 5), (RX7, TX7, 7), (RX8, TX8, 2), (RX9, TX9, 6)]
