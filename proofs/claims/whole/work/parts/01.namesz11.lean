set_option maxRecDepth 20000 in
theorem ggX7_deliver_X7_tag : GoodIn wsX7_deliver wsX7_tag := goodIn_r _ [24, 25, 26, 27, 2, 28, 29, 30, 15, 31, 32, 5, 33, 34, 35, 36, 37, 38, 39, 40, 41, 42, 43, 44, 45, 46, 47, 48, 49, 50, 51, 52, 53, 54, 89, 90, 91, 92, 93, 94, 95, 96, 97, 98, 99, 100, 101, 102, 103, 104, 105, 106, 107, 108, 109, 110, 111, 112, 113] (by decide +kernel) (by decide +kernel)
set_option maxRecDepth 20000 in
theorem gX7_deliver_X7_tag : GoodIn wsX7_deliver (wsV RX7 210 RX7 yX7_tag wsX7_tag) := goodIn_app (goodIn_of _ (by decide +kernel)) ggX7_deliver_X7_tag
set_option maxRecDepth 20000 in
theorem ggX7_deliver_X7_isBelow : GoodIn wsX7_deliver wsX7_isBelow := goodIn_r _ [57, 58] (by decide +kernel) (by decide +kernel)
set_option maxRecDepth 20000 in
theorem gX7_deliver_X7_isBelow : GoodIn wsX7_deliver (va_wsS RX7 223 yX7_isBelow wsX7_isBelow) := goodIn_app (goodIn_of _ (by decide +kernel)) ggX7_deliver_X7_isBelow
