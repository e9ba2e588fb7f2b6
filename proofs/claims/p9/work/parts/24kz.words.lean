theorem bg_1679 : (.constant RX12 347 32768 : Cond) ∈ bg := bgf (tb_8 _ (List.mem_of_getElem? (i := 100) (by decide +kernel))) (by rfl)
theorem bg_1680 : (.constant RJ6 265 1431655765 : Cond) ∈ bg := bgf (tb_3 _ (List.mem_of_getElem? (i := 230) (by decide +kernel))) (by rfl)
theorem bg_1681 : (.constant RJ6 266 858993459 : Cond) ∈ bg := bgf (tb_3 _ (List.mem_of_getElem? (i := 231) (by decide +kernel))) (by rfl)
theorem bg_1682 : (.constant RJ6 267 252645135 : Cond) ∈ bg := bgf (tb_3 _ (List.mem_of_getElem? (i := 232) (by decide +kernel))) (by rfl)
