theorem k_1691 : Cond.code yX11_countUnit cX11_countUnit 1 none ∈ BIG := mB (tb_6 (List.mem_of_getElem? (i := 151) (by decide +kernel))) rfl
theorem k_1692 : Cond.methodLink RX11 287 yX11_asked ∈ BIG := mB (tb_6 (List.mem_of_getElem? (i := 152) (by decide +kernel))) rfl
theorem k_1694 : Cond.instanceMethod yX11_asked ∈ BIG := mB (tb_6 (List.mem_of_getElem? (i := 154) (by decide +kernel))) rfl
theorem k_1695 : Cond.code yX11_asked cX11_asked 1 (some .int) ∈ BIG := mB (tb_6 (List.mem_of_getElem? (i := 155) (by decide +kernel))) rfl
theorem k_1696 : Cond.methodLink RX11 262 yX11_add ∈ BIG := mB (tb_6 (List.mem_of_getElem? (i := 156) (by decide +kernel))) rfl
theorem k_1698 : Cond.instanceMethod yX11_add ∈ BIG := mB (tb_6 (List.mem_of_getElem? (i := 158) (by decide +kernel))) rfl
theorem k_1699 : Cond.code yX11_add cX11_add 3 none ∈ BIG := mB (tb_6 (List.mem_of_getElem? (i := 159) (by decide +kernel))) rfl
theorem k_1700 : Cond.methodLink RX11 298 yX11_sign ∈ BIG := mB (tb_6 (List.mem_of_getElem? (i := 160) (by decide +kernel))) rfl
theorem k_1702 : Cond.instanceMethod yX11_sign ∈ BIG := mB (tb_6 (List.mem_of_getElem? (i := 162) (by decide +kernel))) rfl
theorem k_1703 : Cond.code yX11_sign cX11_sign 1 (some .int) ∈ BIG := mB (tb_6 (List.mem_of_getElem? (i := 163) (by decide +kernel))) rfl
theorem k_1704 : Cond.methodLink RX11 301 yX11_hasBracket ∈ BIG := mB (tb_6 (List.mem_of_getElem? (i := 164) (by decide +kernel))) rfl
theorem k_1706 : Cond.instanceMethod yX11_hasBracket ∈ BIG := mB (tb_6 (List.mem_of_getElem? (i := 166) (by decide +kernel))) rfl
theorem k_1707 : Cond.code yX11_hasBracket cX11_hasBracket 3 (some .boolean) ∈ BIG := mB (tb_6 (List.mem_of_getElem? (i := 167) (by decide +kernel))) rfl
theorem k_1708 : Cond.methodLink RX11 304 yX11_close ∈ BIG := mB (tb_6 (List.mem_of_getElem? (i := 168) (by decide +kernel))) rfl
theorem k_1710 : Cond.instanceMethod yX11_close ∈ BIG := mB (tb_6 (List.mem_of_getElem? (i := 170) (by decide +kernel))) rfl
theorem k_1711 : Cond.code yX11_close cX11_close 2 none ∈ BIG := mB (tb_6 (List.mem_of_getElem? (i := 171) (by decide +kernel))) rfl
theorem k_1712 : Cond.methodLink RX11 307 yX11_hasRelation ∈ BIG := mB (tb_6 (List.mem_of_getElem? (i := 172) (by decide +kernel))) rfl
theorem k_1714 : Cond.instanceMethod yX11_hasRelation ∈ BIG := mB (tb_6 (List.mem_of_getElem? (i := 174) (by decide +kernel))) rfl
theorem k_1715 : Cond.code yX11_hasRelation cX11_hasRelation 2 (some .boolean) ∈ BIG := mB (tb_6 (List.mem_of_getElem? (i := 175) (by decide +kernel))) rfl
theorem k_1716 : Cond.methodLink RX11 399 yX11_begin ∈ BIG := mB (tb_6 (List.mem_of_getElem? (i := 176) (by decide +kernel))) rfl
theorem k_1718 : Cond.instanceMethod yX11_begin ∈ BIG := mB (tb_6 (List.mem_of_getElem? (i := 178) (by decide +kernel))) rfl
theorem k_1719 : Cond.code yX11_begin cX11_begin 2 none ∈ BIG := mB (tb_6 (List.mem_of_getElem? (i := 179) (by decide +kernel))) rfl
theorem k_1720 : Cond.methodLink RX11 402 yX11_keepAir ∈ BIG := mB (tb_6 (List.mem_of_getElem? (i := 180) (by decide +kernel))) rfl
theorem k_1722 : Cond.instanceMethod yX11_keepAir ∈ BIG := mB (tb_6 (List.mem_of_getElem? (i := 182) (by decide +kernel))) rfl
theorem k_1723 : Cond.code yX11_keepAir cX11_keepAir 2 none ∈ BIG := mB (tb_6 (List.mem_of_getElem? (i := 183) (by decide +kernel))) rfl
theorem k_2059 : Cond.fieldLink RJ0 9 RJ0 "value" "[B" ∈ BIG := mB (tb_8 (List.mem_of_getElem? (i := 39) (by decide +kernel))) rfl
theorem k_2060 : Cond.fieldLink RJ0 15 RJ0 "coder" "B" ∈ BIG := mB (tb_8 (List.mem_of_getElem? (i := 40) (by decide +kernel))) rfl
