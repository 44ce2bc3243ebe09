set_option maxRecDepth 20000 in
theorem ggX5_digest_X5_tellsCount : GoodIn wsX5_digest wsX5_tellsCount := goodIn_r _ [12, 3, 13, 6, 14, 15, 23, 24, 25, 26, 27, 28, 29, 30, 31, 32, 33, 34, 35, 36, 37, 38, 39, 40, 41, 42] (by decide +kernel) (by decide +kernel)
set_option maxRecDepth 20000 in
theorem gX5_digest_X5_tellsCount : GoodIn wsX5_digest (wsV RX5 155 RX5 yX5_tellsCount wsX5_tellsCount) := goodIn_app (goodIn_of _ (by decide +kernel)) ggX5_digest_X5_tellsCount
set_option maxRecDepth 20000 in
theorem ggX5_digest_X5_tells : GoodIn wsX5_digest wsX5_tells := goodIn_r _ [19, 20, 21, 22, 13, 23, 24, 25, 26, 27, 28, 29, 30, 31, 32, 33, 34, 35, 36, 37, 38, 39, 40, 41, 42] (by decide +kernel) (by decide +kernel)
set_option maxRecDepth 20000 in
theorem gX5_digest_X5_tells : GoodIn wsX5_digest (wsV RX5 85 RX5 yX5_tells wsX5_tells) := goodIn_app (goodIn_of _ (by decide +kernel)) ggX5_digest_X5_tells
