set_option maxRecDepth 20000 in
theorem mL_X12_mark_r1 : ∀ w ∈ wsX12_mark_r1, w ∈ wsL_law0 := (zcm (zr10 1 rfl) (zcm (zr9 9 rfl) (zcm (zr9 7 rfl) (zcm (zr9 4 rfl) (zcm (zr21 17 rfl) (zcm (zr25 11 rfl) (zcm (zr25 12 rfl) (zcm (zr1 5 rfl) (zcm (zr25 13 rfl) (zcm (zr30 6 rfl) (zcm (zr30 7 rfl) (zcm (zr30 8 rfl) (zcm (zr30 9 rfl) (zcm (zr8 21 rfl) (zcm (zr8 22 rfl) (zcm (zr8 23 rfl) (zcm (zr9 0 rfl) (zcm (zr57 21 rfl) (zcm (zr57 22 rfl) (zcm (zr57 23 rfl) (zcm (zr58 0 rfl) (zcm (zr9 1 rfl) (zcm (zr9 2 rfl) (zcm (zr9 3 rfl) znm))))))))))))))))))))))))
set_option maxRecDepth 20000 in
theorem mL_X12_mark_r2 : ∀ w ∈ wsX12_mark_r2, w ∈ wsL_law0 := (zcm (zr36 17 rfl) (zcm (zr36 18 rfl) (zcm (zr36 19 rfl) znm)))
set_option maxRecDepth 20000 in
theorem mL_X12_mark : ∀ w ∈ wsX12_mark, w ∈ wsL_law0 := (zcm (zr57 20 rfl) (zmem (zmem mL_X12_mark_r1 mL_X12_mark_r2) zs_wsX120))
theorem gL_law_X12_mark : GoodIn wsL_law0 (wsV RL 161 RX12 yX12_mark wsX12_mark) := zgl (zmem (zcm (zr57 17 rfl) (zcm (zr57 18 rfl) (zcm (zr57 19 rfl) (zcm (zr1 5 rfl) znm)))) mL_X12_mark)
set_option maxRecDepth 20000 in
theorem mL_X11_count_r1 : ∀ w ∈ wsX11_count_r1, w ∈ wsL_law0 := (zcm (zr1 21 rfl) (zcm (zr31 19 rfl) (zcm (zr31 0 rfl) (zcm (zr58 5 rfl) (zcm (zr48 4 rfl) (zcm (zr2 19 rfl) (zcm (zr38 22 rfl) (zcm (zr30 17 rfl) (zcm (zr30 18 rfl) (zcm (zr2 6 rfl) (zcm (zr10 9 rfl) (zcm (zr3 0 rfl) (zcm (zr51 14 rfl) (zcm (zr3 5 rfl) (zcm (zr1 17 rfl) (zcm (zr9 15 rfl) (zcm (zr55 20 rfl) (zcm (zr55 21 rfl) (zcm (zr55 22 rfl) (zcm (zr2 18 rfl) (zcm (zr55 23 rfl) (zcm (zr6 17 rfl) (zcm (zr41 0 rfl) (zcm (zr41 1 rfl) znm))))))))))))))))))))))))
set_option maxRecDepth 20000 in
theorem mL_X11_count_r2 : ∀ w ∈ wsX11_count_r2, w ∈ wsL_law0 := (zcm (zr41 2 rfl) (zcm (zr1 2 rfl) (zcm (zr41 3 rfl) znm)))
set_option maxRecDepth 20000 in
theorem mL_X11_count : ∀ w ∈ wsX11_count, w ∈ wsL_law0 := (zcm (zr58 4 rfl) (zmem (zmem (zmem (zmem (zmem (zmem (zmem mL_X11_count_r1 mL_X11_count_r2) zs_wsX110) zs_wsX20) zs_wsX80) zs_wsX10) zs_wsX60) zs_wsX90))
theorem gL_law_X11_count : GoodIn wsL_law0 (wsV RL 162 RX11 yX11_count wsX11_count) := zgl (zmem (zcm (zr58 1 rfl) (zcm (zr58 2 rfl) (zcm (zr58 3 rfl) (zcm (zr1 2 rfl) znm)))) mL_X11_count)
set_option maxRecDepth 20000 in
theorem mL_X12_count : ∀ w ∈ wsX12_count, w ∈ wsL_law0 := (zcm (zr58 9 rfl) (zmem (zcm (zr10 1 rfl) (zcm (zr7 20 rfl) (zcm (zr9 4 rfl) (zcm (zr8 21 rfl) (zcm (zr9 1 rfl) (zcm (zr21 17 rfl) (zcm (zr10 3 rfl) (zcm (zr25 11 rfl) (zcm (zr25 12 rfl) (zcm (zr1 5 rfl) (zcm (zr25 13 rfl) (zcm (zr56 19 rfl) (zcm (zr56 20 rfl) (zcm (zr56 21 rfl) (zcm (zr56 22 rfl) (zcm (zr41 8 rfl) (zcm (zr41 9 rfl) (zcm (zr41 10 rfl) (zcm (zr41 11 rfl) znm))))))))))))))))))) zs_wsX120))
theorem gL_law_X12_count : GoodIn wsL_law0 (wsV RL 165 RX12 yX12_count wsX12_count) := zgl (zmem (zcm (zr58 6 rfl) (zcm (zr58 7 rfl) (zcm (zr58 8 rfl) (zcm (zr1 5 rfl) znm)))) mL_X12_count)
