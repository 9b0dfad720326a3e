theorem k_1918 : Cond.selects RX11 yX11_wings yX11_wings ∈ BIG := mB (tb_7 (List.mem_of_getElem? (i := 138) (by decide +kernel))) rfl
theorem k_1919 : Cond.code yX11_wings cX11_wings 8 (some .int) ∈ BIG := mB (tb_7 (List.mem_of_getElem? (i := 139) (by decide +kernel))) rfl
theorem k_1920 : Cond.methodLink RX11 495 yX11_plain ∈ BIG := mB (tb_7 (List.mem_of_getElem? (i := 140) (by decide +kernel))) rfl
theorem k_1921 : Cond.static yX11_plain ∈ BIG := mB (tb_7 (List.mem_of_getElem? (i := 141) (by decide +kernel))) rfl
theorem k_1922 : Cond.code yX11_plain cX11_plain 1 (some .int) ∈ BIG := mB (tb_7 (List.mem_of_getElem? (i := 142) (by decide +kernel))) rfl
theorem k_1923 : Cond.methodLink RL 122 yX11_cloth ∈ BIG := mB (tb_7 (List.mem_of_getElem? (i := 143) (by decide +kernel))) rfl
theorem k_1924 : Cond.instanceMethod yX11_cloth ∈ BIG := mB (tb_7 (List.mem_of_getElem? (i := 144) (by decide +kernel))) rfl
theorem k_1925 : Cond.selects RX11 yX11_cloth yX11_cloth ∈ BIG := mB (tb_7 (List.mem_of_getElem? (i := 145) (by decide +kernel))) rfl
theorem k_1926 : Cond.code yX11_cloth cX11_cloth 3 (some .int) ∈ BIG := mB (tb_7 (List.mem_of_getElem? (i := 146) (by decide +kernel))) rfl
theorem k_1927 : Cond.constant RX11 498 1000000 ∈ BIG := mB (tb_7 (List.mem_of_getElem? (i := 147) (by decide +kernel))) rfl
theorem k_1928 : Cond.methodLink RX11 499 yX11_rowOf ∈ BIG := mB (tb_7 (List.mem_of_getElem? (i := 148) (by decide +kernel))) rfl
theorem k_1930 : Cond.instanceMethod yX11_rowOf ∈ BIG := mB (tb_7 (List.mem_of_getElem? (i := 150) (by decide +kernel))) rfl
theorem k_1931 : Cond.code yX11_rowOf cX11_rowOf 5 (some .int) ∈ BIG := mB (tb_7 (List.mem_of_getElem? (i := 151) (by decide +kernel))) rfl
theorem k_1932 : Cond.methodLink RL 126 yX11_buttons ∈ BIG := mB (tb_7 (List.mem_of_getElem? (i := 152) (by decide +kernel))) rfl
theorem k_1933 : Cond.instanceMethod yX11_buttons ∈ BIG := mB (tb_7 (List.mem_of_getElem? (i := 153) (by decide +kernel))) rfl
theorem k_1934 : Cond.selects RX11 yX11_buttons yX11_buttons ∈ BIG := mB (tb_7 (List.mem_of_getElem? (i := 154) (by decide +kernel))) rfl
theorem k_1935 : Cond.code yX11_buttons cX11_buttons 4 (some .int) ∈ BIG := mB (tb_7 (List.mem_of_getElem? (i := 155) (by decide +kernel))) rfl
theorem k_1936 : Cond.methodLink RX11 505 yX11_layColours ∈ BIG := mB (tb_7 (List.mem_of_getElem? (i := 156) (by decide +kernel))) rfl
theorem k_1938 : Cond.instanceMethod yX11_layColours ∈ BIG := mB (tb_7 (List.mem_of_getElem? (i := 158) (by decide +kernel))) rfl
theorem k_1939 : Cond.code yX11_layColours cX11_layColours 7 (some .boolean) ∈ BIG := mB (tb_7 (List.mem_of_getElem? (i := 159) (by decide +kernel))) rfl
theorem k_1940 : Cond.methodLink RX11 502 yX11_areTaken ∈ BIG := mB (tb_7 (List.mem_of_getElem? (i := 160) (by decide +kernel))) rfl
theorem k_1942 : Cond.instanceMethod yX11_areTaken ∈ BIG := mB (tb_7 (List.mem_of_getElem? (i := 162) (by decide +kernel))) rfl
theorem k_1943 : Cond.code yX11_areTaken cX11_areTaken 3 (some .boolean) ∈ BIG := mB (tb_7 (List.mem_of_getElem? (i := 163) (by decide +kernel))) rfl
theorem k_1944 : Cond.methodLink RL 130 yX11_reach ∈ BIG := mB (tb_7 (List.mem_of_getElem? (i := 164) (by decide +kernel))) rfl
theorem k_1945 : Cond.instanceMethod yX11_reach ∈ BIG := mB (tb_7 (List.mem_of_getElem? (i := 165) (by decide +kernel))) rfl
theorem k_1946 : Cond.selects RX11 yX11_reach yX11_reach ∈ BIG := mB (tb_7 (List.mem_of_getElem? (i := 166) (by decide +kernel))) rfl
theorem k_1947 : Cond.code yX11_reach cX11_reach 7 (some .int) ∈ BIG := mB (tb_7 (List.mem_of_getElem? (i := 167) (by decide +kernel))) rfl
theorem k_1948 : Cond.methodLink RX11 511 yX11_freeCoats ∈ BIG := mB (tb_7 (List.mem_of_getElem? (i := 168) (by decide +kernel))) rfl
theorem k_1950 : Cond.instanceMethod yX11_freeCoats ∈ BIG := mB (tb_7 (List.mem_of_getElem? (i := 170) (by decide +kernel))) rfl
theorem k_1951 : Cond.code yX11_freeCoats cX11_freeCoats 3 (some .int) ∈ BIG := mB (tb_7 (List.mem_of_getElem? (i := 171) (by decide +kernel))) rfl
theorem k_1952 : Cond.methodLink RX11 514 yX11_isRest ∈ BIG := mB (tb_7 (List.mem_of_getElem? (i := 172) (by decide +kernel))) rfl
theorem k_1954 : Cond.instanceMethod yX11_isRest ∈ BIG := mB (tb_7 (List.mem_of_getElem? (i := 174) (by decide +kernel))) rfl
theorem k_1955 : Cond.code yX11_isRest cX11_isRest 8 (some .boolean) ∈ BIG := mB (tb_7 (List.mem_of_getElem? (i := 175) (by decide +kernel))) rfl
theorem k_1956 : Cond.methodLink RX11 508 yX11_reached ∈ BIG := mB (tb_7 (List.mem_of_getElem? (i := 176) (by decide +kernel))) rfl
theorem k_1958 : Cond.instanceMethod yX11_reached ∈ BIG := mB (tb_7 (List.mem_of_getElem? (i := 178) (by decide +kernel))) rfl
theorem k_1959 : Cond.code yX11_reached cX11_reached 4 (some .int) ∈ BIG := mB (tb_7 (List.mem_of_getElem? (i := 179) (by decide +kernel))) rfl
theorem k_1960 : Cond.methodLink RL 134 yX11_turning ∈ BIG := mB (tb_7 (List.mem_of_getElem? (i := 180) (by decide +kernel))) rfl
theorem k_1961 : Cond.instanceMethod yX11_turning ∈ BIG := mB (tb_7 (List.mem_of_getElem? (i := 181) (by decide +kernel))) rfl
theorem k_1962 : Cond.selects RX11 yX11_turning yX11_turning ∈ BIG := mB (tb_7 (List.mem_of_getElem? (i := 182) (by decide +kernel))) rfl
theorem k_1963 : Cond.code yX11_turning cX11_turning 5 (some .int) ∈ BIG := mB (tb_7 (List.mem_of_getElem? (i := 183) (by decide +kernel))) rfl
theorem k_1964 : Cond.methodLink RL 138 yX11_rags ∈ BIG := mB (tb_7 (List.mem_of_getElem? (i := 184) (by decide +kernel))) rfl
theorem k_1965 : Cond.instanceMethod yX11_rags ∈ BIG := mB (tb_7 (List.mem_of_getElem? (i := 185) (by decide +kernel))) rfl
theorem k_1966 : Cond.selects RX11 yX11_rags yX11_rags ∈ BIG := mB (tb_7 (List.mem_of_getElem? (i := 186) (by decide +kernel))) rfl
theorem k_1967 : Cond.code yX11_rags cX11_rags 3 (some .int) ∈ BIG := mB (tb_7 (List.mem_of_getElem? (i := 187) (by decide +kernel))) rfl
theorem k_1968 : Cond.methodLink RX11 518 yX11_menFor ∈ BIG := mB (tb_7 (List.mem_of_getElem? (i := 188) (by decide +kernel))) rfl
theorem k_1970 : Cond.instanceMethod yX11_menFor ∈ BIG := mB (tb_7 (List.mem_of_getElem? (i := 190) (by decide +kernel))) rfl
theorem k_1971 : Cond.code yX11_menFor cX11_menFor 4 (some .int) ∈ BIG := mB (tb_7 (List.mem_of_getElem? (i := 191) (by decide +kernel))) rfl
theorem k_1972 : Cond.methodLink RL 142 yX11_naked ∈ BIG := mB (tb_7 (List.mem_of_getElem? (i := 192) (by decide +kernel))) rfl
theorem k_1973 : Cond.instanceMethod yX11_naked ∈ BIG := mB (tb_7 (List.mem_of_getElem? (i := 193) (by decide +kernel))) rfl
theorem k_1974 : Cond.selects RX11 yX11_naked yX11_naked ∈ BIG := mB (tb_7 (List.mem_of_getElem? (i := 194) (by decide +kernel))) rfl
theorem k_1975 : Cond.code yX11_naked cX11_naked 3 (some .int) ∈ BIG := mB (tb_7 (List.mem_of_getElem? (i := 195) (by decide +kernel))) rfl
theorem k_1976 : Cond.methodLink RL 146 yX11_popular ∈ BIG := mB (tb_7 (List.mem_of_getElem? (i := 196) (by decide +kernel))) rfl
theorem k_1977 : Cond.instanceMethod yX11_popular ∈ BIG := mB (tb_7 (List.mem_of_getElem? (i := 197) (by decide +kernel))) rfl
theorem k_1978 : Cond.selects RX11 yX11_popular yX11_popular ∈ BIG := mB (tb_7 (List.mem_of_getElem? (i := 198) (by decide +kernel))) rfl
theorem k_1979 : Cond.code yX11_popular cX11_popular 2 (some .int) ∈ BIG := mB (tb_7 (List.mem_of_getElem? (i := 199) (by decide +kernel))) rfl
theorem k_1980 : Cond.methodLink RL 150 yX11_law ∈ BIG := mB (tb_7 (List.mem_of_getElem? (i := 200) (by decide +kernel))) rfl
theorem k_1981 : Cond.instanceMethod yX11_law ∈ BIG := mB (tb_7 (List.mem_of_getElem? (i := 201) (by decide +kernel))) rfl
theorem k_1982 : Cond.selects RX11 yX11_law yX11_law ∈ BIG := mB (tb_7 (List.mem_of_getElem? (i := 202) (by decide +kernel))) rfl
theorem k_1983 : Cond.code yX11_law cX11_law 4 (some .int) ∈ BIG := mB (tb_7 (List.mem_of_getElem? (i := 203) (by decide +kernel))) rfl
theorem k_1984 : Cond.methodLink RX11 521 yX11_ownIll ∈ BIG := mB (tb_7 (List.mem_of_getElem? (i := 204) (by decide +kernel))) rfl
theorem k_1986 : Cond.instanceMethod yX11_ownIll ∈ BIG := mB (tb_7 (List.mem_of_getElem? (i := 206) (by decide +kernel))) rfl
theorem k_1987 : Cond.code yX11_ownIll cX11_ownIll 2 (some .int) ∈ BIG := mB (tb_7 (List.mem_of_getElem? (i := 207) (by decide +kernel))) rfl
theorem k_1988 : Cond.methodLink RL 154 yX11_ease ∈ BIG := mB (tb_7 (List.mem_of_getElem? (i := 208) (by decide +kernel))) rfl
theorem k_1989 : Cond.instanceMethod yX11_ease ∈ BIG := mB (tb_7 (List.mem_of_getElem? (i := 209) (by decide +kernel))) rfl
theorem k_1990 : Cond.selects RX11 yX11_ease yX11_ease ∈ BIG := mB (tb_7 (List.mem_of_getElem? (i := 210) (by decide +kernel))) rfl
theorem k_1991 : Cond.code yX11_ease cX11_ease 3 (some .int) ∈ BIG := mB (tb_7 (List.mem_of_getElem? (i := 211) (by decide +kernel))) rfl
theorem k_1992 : Cond.methodLink RL 158 yX11_breadth ∈ BIG := mB (tb_7 (List.mem_of_getElem? (i := 212) (by decide +kernel))) rfl
theorem k_1993 : Cond.instanceMethod yX11_breadth ∈ BIG := mB (tb_7 (List.mem_of_getElem? (i := 213) (by decide +kernel))) rfl
theorem k_1994 : Cond.selects RX11 yX11_breadth yX11_breadth ∈ BIG := mB (tb_7 (List.mem_of_getElem? (i := 214) (by decide +kernel))) rfl
theorem k_1995 : Cond.code yX11_breadth cX11_breadth 1 (some .int) ∈ BIG := mB (tb_7 (List.mem_of_getElem? (i := 215) (by decide +kernel))) rfl
theorem k_1996 : Cond.methodLink RL 166 yX11_odds ∈ BIG := mB (tb_7 (List.mem_of_getElem? (i := 216) (by decide +kernel))) rfl
theorem k_1997 : Cond.instanceMethod yX11_odds ∈ BIG := mB (tb_7 (List.mem_of_getElem? (i := 217) (by decide +kernel))) rfl
theorem k_1998 : Cond.selects RX11 yX11_odds yX11_odds ∈ BIG := mB (tb_7 (List.mem_of_getElem? (i := 218) (by decide +kernel))) rfl
theorem k_1999 : Cond.code yX11_odds cX11_odds 6 (some .int) ∈ BIG := mB (tb_7 (List.mem_of_getElem? (i := 219) (by decide +kernel))) rfl
theorem k_2000 : Cond.methodLink RX11 524 yX11_divisor ∈ BIG := mB (tb_7 (List.mem_of_getElem? (i := 220) (by decide +kernel))) rfl
theorem k_2001 : Cond.static yX11_divisor ∈ BIG := mB (tb_7 (List.mem_of_getElem? (i := 221) (by decide +kernel))) rfl
theorem k_2002 : Cond.code yX11_divisor cX11_divisor 5 (some .int) ∈ BIG := mB (tb_7 (List.mem_of_getElem? (i := 222) (by decide +kernel))) rfl
theorem k_2003 : Cond.methodLink RL 170 yX11_lies ∈ BIG := mB (tb_7 (List.mem_of_getElem? (i := 223) (by decide +kernel))) rfl
theorem k_2004 : Cond.instanceMethod yX11_lies ∈ BIG := mB (tb_7 (List.mem_of_getElem? (i := 224) (by decide +kernel))) rfl
theorem k_2005 : Cond.selects RX11 yX11_lies yX11_lies ∈ BIG := mB (tb_7 (List.mem_of_getElem? (i := 225) (by decide +kernel))) rfl
theorem k_2006 : Cond.code yX11_lies cX11_lies 2 (some .int) ∈ BIG := mB (tb_7 (List.mem_of_getElem? (i := 226) (by decide +kernel))) rfl
theorem k_2007 : Cond.methodLink RL 175 yX11_seen ∈ BIG := mB (tb_7 (List.mem_of_getElem? (i := 227) (by decide +kernel))) rfl
theorem k_2008 : Cond.instanceMethod yX11_seen ∈ BIG := mB (tb_7 (List.mem_of_getElem? (i := 228) (by decide +kernel))) rfl
theorem k_2009 : Cond.selects RX11 yX11_seen yX11_seen ∈ BIG := mB (tb_7 (List.mem_of_getElem? (i := 229) (by decide +kernel))) rfl
theorem k_2010 : Cond.code yX11_seen cX11_seen 3 (some .int) ∈ BIG := mB (tb_7 (List.mem_of_getElem? (i := 230) (by decide +kernel))) rfl
theorem k_2011 : Cond.methodLink RL 180 yX11_untell ∈ BIG := mB (tb_7 (List.mem_of_getElem? (i := 231) (by decide +kernel))) rfl
theorem k_2012 : Cond.instanceMethod yX11_untell ∈ BIG := mB (tb_7 (List.mem_of_getElem? (i := 232) (by decide +kernel))) rfl
theorem k_2013 : Cond.selects RX11 yX11_untell yX11_untell ∈ BIG := mB (tb_7 (List.mem_of_getElem? (i := 233) (by decide +kernel))) rfl
theorem k_2014 : Cond.code yX11_untell cX11_untell 2 (some .boolean) ∈ BIG := mB (tb_7 (List.mem_of_getElem? (i := 234) (by decide +kernel))) rfl
theorem k_2015 : Cond.methodLink RL 184 yX11_later ∈ BIG := mB (tb_7 (List.mem_of_getElem? (i := 235) (by decide +kernel))) rfl
theorem k_2016 : Cond.instanceMethod yX11_later ∈ BIG := mB (tb_7 (List.mem_of_getElem? (i := 236) (by decide +kernel))) rfl
theorem k_2017 : Cond.selects RX11 yX11_later yX11_later ∈ BIG := mB (tb_7 (List.mem_of_getElem? (i := 237) (by decide +kernel))) rfl
theorem k_2018 : Cond.code yX11_later cX11_later 2 (some .int) ∈ BIG := mB (tb_7 (List.mem_of_getElem? (i := 238) (by decide +kernel))) rfl
theorem k_2019 : Cond.constant RX11 530 100000 ∈ BIG := mB (tb_7 (List.mem_of_getElem? (i := 239) (by decide +kernel))) rfl
theorem k_2020 : Cond.methodLink RL 188 yX11_growths ∈ BIG := mB (tb_8 (List.mem_of_getElem? (i := 0) (by decide +kernel))) rfl
theorem k_2021 : Cond.instanceMethod yX11_growths ∈ BIG := mB (tb_8 (List.mem_of_getElem? (i := 1) (by decide +kernel))) rfl
theorem k_2022 : Cond.selects RX11 yX11_growths yX11_growths ∈ BIG := mB (tb_8 (List.mem_of_getElem? (i := 2) (by decide +kernel))) rfl
theorem k_2023 : Cond.code yX11_growths cX11_growths 2 (some .int) ∈ BIG := mB (tb_8 (List.mem_of_getElem? (i := 3) (by decide +kernel))) rfl
theorem k_2024 : Cond.methodLink RX11 534 yX11_layGrowths ∈ BIG := mB (tb_8 (List.mem_of_getElem? (i := 4) (by decide +kernel))) rfl
theorem k_2026 : Cond.instanceMethod yX11_layGrowths ∈ BIG := mB (tb_8 (List.mem_of_getElem? (i := 6) (by decide +kernel))) rfl
theorem k_2027 : Cond.code yX11_layGrowths cX11_layGrowths 5 (some .int) ∈ BIG := mB (tb_8 (List.mem_of_getElem? (i := 7) (by decide +kernel))) rfl
theorem k_2028 : Cond.methodLink RX11 531 yX11_fitsGrowth ∈ BIG := mB (tb_8 (List.mem_of_getElem? (i := 8) (by decide +kernel))) rfl
theorem k_2030 : Cond.instanceMethod yX11_fitsGrowth ∈ BIG := mB (tb_8 (List.mem_of_getElem? (i := 10) (by decide +kernel))) rfl
theorem k_2031 : Cond.code yX11_fitsGrowth cX11_fitsGrowth 5 (some .boolean) ∈ BIG := mB (tb_8 (List.mem_of_getElem? (i := 11) (by decide +kernel))) rfl
theorem k_2032 : Cond.methodLink RL 192 yX11_sure ∈ BIG := mB (tb_8 (List.mem_of_getElem? (i := 12) (by decide +kernel))) rfl
theorem k_2033 : Cond.instanceMethod yX11_sure ∈ BIG := mB (tb_8 (List.mem_of_getElem? (i := 13) (by decide +kernel))) rfl
theorem k_2034 : Cond.selects RX11 yX11_sure yX11_sure ∈ BIG := mB (tb_8 (List.mem_of_getElem? (i := 14) (by decide +kernel))) rfl
theorem k_2035 : Cond.code yX11_sure cX11_sure 5 (some .int) ∈ BIG := mB (tb_8 (List.mem_of_getElem? (i := 15) (by decide +kernel))) rfl
theorem k_2036 : Cond.methodLink RL 196 yX11_ask ∈ BIG := mB (tb_8 (List.mem_of_getElem? (i := 16) (by decide +kernel))) rfl
theorem k_2037 : Cond.instanceMethod yX11_ask ∈ BIG := mB (tb_8 (List.mem_of_getElem? (i := 17) (by decide +kernel))) rfl
theorem k_2038 : Cond.selects RX11 yX11_ask yX11_ask ∈ BIG := mB (tb_8 (List.mem_of_getElem? (i := 18) (by decide +kernel))) rfl
theorem k_2039 : Cond.code yX11_ask cX11_ask 6 (some .int) ∈ BIG := mB (tb_8 (List.mem_of_getElem? (i := 19) (by decide +kernel))) rfl
theorem k_2040 : Cond.methodLink RX11 537 yX11_leftBy ∈ BIG := mB (tb_8 (List.mem_of_getElem? (i := 20) (by decide +kernel))) rfl
theorem k_2042 : Cond.instanceMethod yX11_leftBy ∈ BIG := mB (tb_8 (List.mem_of_getElem? (i := 22) (by decide +kernel))) rfl
theorem k_2043 : Cond.code yX11_leftBy cX11_leftBy 5 (some .int) ∈ BIG := mB (tb_8 (List.mem_of_getElem? (i := 23) (by decide +kernel))) rfl
theorem k_2044 : Cond.methodLink RL 200 yX11_image ∈ BIG := mB (tb_8 (List.mem_of_getElem? (i := 24) (by decide +kernel))) rfl
theorem k_2045 : Cond.instanceMethod yX11_image ∈ BIG := mB (tb_8 (List.mem_of_getElem? (i := 25) (by decide +kernel))) rfl
theorem k_2046 : Cond.selects RX11 yX11_image yX11_image ∈ BIG := mB (tb_8 (List.mem_of_getElem? (i := 26) (by decide +kernel))) rfl
theorem k_2047 : Cond.code yX11_image cX11_image 3 (some .int) ∈ BIG := mB (tb_8 (List.mem_of_getElem? (i := 27) (by decide +kernel))) rfl
theorem k_2048 : Cond.methodLink RX11 540 yX11_isBox ∈ BIG := mB (tb_8 (List.mem_of_getElem? (i := 28) (by decide +kernel))) rfl
theorem k_2049 : Cond.static yX11_isBox ∈ BIG := mB (tb_8 (List.mem_of_getElem? (i := 29) (by decide +kernel))) rfl
theorem k_2050 : Cond.code yX11_isBox cX11_isBox 1 (some .boolean) ∈ BIG := mB (tb_8 (List.mem_of_getElem? (i := 30) (by decide +kernel))) rfl
theorem k_2051 : Cond.methodLink RL 204 yX11_back ∈ BIG := mB (tb_8 (List.mem_of_getElem? (i := 31) (by decide +kernel))) rfl
theorem k_2052 : Cond.instanceMethod yX11_back ∈ BIG := mB (tb_8 (List.mem_of_getElem? (i := 32) (by decide +kernel))) rfl
theorem k_2053 : Cond.selects RX11 yX11_back yX11_back ∈ BIG := mB (tb_8 (List.mem_of_getElem? (i := 33) (by decide +kernel))) rfl
theorem k_2054 : Cond.code yX11_back cX11_back 3 (some .int) ∈ BIG := mB (tb_8 (List.mem_of_getElem? (i := 34) (by decide +kernel))) rfl
theorem k_2055 : Cond.methodLink RL 208 yX11_about ∈ BIG := mB (tb_8 (List.mem_of_getElem? (i := 35) (by decide +kernel))) rfl
theorem k_2056 : Cond.instanceMethod yX11_about ∈ BIG := mB (tb_8 (List.mem_of_getElem? (i := 36) (by decide +kernel))) rfl
theorem k_2057 : Cond.selects RX11 yX11_about yX11_about ∈ BIG := mB (tb_8 (List.mem_of_getElem? (i := 37) (by decide +kernel))) rfl
theorem k_2058 : Cond.code yX11_about cX11_about 2 (some .int) ∈ BIG := mB (tb_8 (List.mem_of_getElem? (i := 38) (by decide +kernel))) rfl
theorem k_2059 : Cond.fieldLink RJ0 9 RJ0 "value" "[B" ∈ BIG := mB (tb_8 (List.mem_of_getElem? (i := 39) (by decide +kernel))) rfl
theorem k_2060 : Cond.fieldLink RJ0 15 RJ0 "coder" "B" ∈ BIG := mB (tb_8 (List.mem_of_getElem? (i := 40) (by decide +kernel))) rfl
