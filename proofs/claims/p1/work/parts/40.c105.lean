set_option maxRecDepth 20000 in
theorem ggX6_isWhole_X8_isHeight : GoodIn wsX6_isWhole wsX8_isHeight := goodIn_r _ [24, 25] (by decide +kernel) (by decide +kernel)
