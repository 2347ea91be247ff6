def s12_byteOf (S : HP) (x0 : Int) (x2 : Int) : Option (Int × HP) := some ((iAn ((jI ((jSr (x0) ((8 * x2)))))) (255)), S)
def s13_can_b14 (S : HP) (y0 : Int) : Option (Int × HP) := zR (y0) S
def s13_can (S : HP) (x0 : Int) (x1 : Int) : Option (Int × HP) := gd 13 S x0 ((pF 13 125 S (x0) (x1)).bind fun S2 => (if iW (x1) = 0 then (s13_can_b14 S2 (1)) else (s13_can_b14 S2 (0))))
def s13_isIn_b15 (S : HP) (y0 : Int) : Option (Int × HP) := zR (y0) S
def s13_isIn_b14 (S : HP) : Option (Int × HP) := (s13_isIn_b15 S (0))
def s13_isIn (S : HP) (x0 : Int) (x1 : Int) (x2 : Int) : Option (Int × HP) := (if iW (x0) < iW (x1) then (s13_isIn_b14 S) else (if iW (x2) < iW (x0) then (s13_isIn_b14 S) else (s13_isIn_b15 S (1))))
def s13_isSign (S : HP) (x0 : Int) : Option (Int × HP) := (s13_isIn S (x0) (32) (126)).bind fun q5 => zR (q5.1) q5.2
def s13_isKey_b54 (S : HP) (y0 : Int) : Option (Int × HP) := zR (y0) S
def s13_isKey_b49 (S : HP) : Option (Int × HP) := (s13_isKey_b54 S (1))
def s13_isKey (S : HP) (x0 : Int) : Option (Int × HP) := (s13_isSign S (x0)).bind fun q1 => (if iW (q1.1) = 0 then (if iW (x0) = iW (8) then (s13_isKey_b49 q1.2) else (if iW (x0) = iW (9) then (s13_isKey_b49 q1.2) else (if iW (x0) = iW (13) then (s13_isKey_b49 q1.2) else (if iW (x0) = iW (15) then (s13_isKey_b49 q1.2) else (if iW (x0) = iW (18) then (s13_isKey_b49 q1.2) else (if iW (x0) = iW (22) then (s13_isKey_b49 q1.2) else (if iW (x0) = iW (27) then (s13_isKey_b49 q1.2) else (s13_isKey_b54 q1.2 (0))))))))) else (s13_isKey_b49 q1.2))
def s13_at (S : HP) (x0 : Int) (x1 : Int) (x2 : Int) : Option (Int × HP) := gd 13 S x0 ((gF 13 4 S (x0)).bind fun v1 => (gA 101 S (v1) (((60 * x1) + x2))).bind fun v10 => some (v10, S))
def s13_registerOf_b39 (S : HP) (y0 : Int) : Option (Int × HP) := some (y0, S)
def s13_registerOf_b22 (S : HP) (x0 : Int) : Option (Int × HP) := (if iW (x0) < iW (97) then (s13_registerOf_b39 S ((x0 - 65))) else (s13_registerOf_b39 S ((x0 - 97))))
def s13_registerOf_b95 (S : HP) (y0 : Int) : Option (Int × HP) := some (y0, S)
def s13_registerOf (S : HP) (x0 : Int) : Option (Int × HP) := (s13_isIn S (x0) (97) (122)).bind fun q5 => (if iW (q5.1) = 0 then (s13_isIn q5.2 (x0) (65) (90)).bind fun q16 => (if iW (q16.1) = 0 then (s13_isIn q16.2 (x0) (48) (57)).bind fun q45 => (if iW (q45.1) = 0 then (if iW (x0) = iW (45) then (s13_registerOf_b95 q45.2 (36)) else (if iW (x0) = iW (34) then (s13_registerOf_b95 q45.2 (37)) else (if iW (x0) = iW (95) then (s13_registerOf_b95 q45.2 (38)) else (s13_registerOf_b95 q45.2 ((-1)))))) else (s13_registerOf_b95 q45.2 (((26 + x0) - 48)))) else (s13_registerOf_b22 q16.2 (x0))) else (s13_registerOf_b22 q5.2 (x0)))
def s13_keyOf (S : HP) (x0 : Int) (x2 : Int) : Option (Int × HP) := some ((jI ((jAn ((jSr (x0) ((8 * x2)))) (255)))), S)
def s13_keysIn_b24 (k4 : HP → Int → Int → Int → Option (Int × HP)) (S : HP) (x0 : Int) (x3 : Int) (y0 : Int) (y1 : Int) : Option (Int × HP) := (k4 S (x0) ((y0 + y1)) ((x3 + 1)))
def s13_keysIn_l4 : Nat → HP → Int → Int → Int → Option (Int × HP)
  | 0, _, _, _, _ => none
  | f + 1, S, x0, x2, x3 => let k4 := s13_keysIn_l4 f; (if iW (8) ≤ iW (x3) then some (x2, S) else (s13_keyOf S (x0) (x3)).bind fun q13 => (if iW (q13.1) = 0 then (s13_keysIn_b24 k4 q13.2 (x0) (x3) (x2) (0)) else (s13_keysIn_b24 k4 q13.2 (x0) (x3) (x2) (1))))
def s13_keysIn (S : HP) (x0 : Int) : Option (Int × HP) := (s13_keysIn_l4 1000000 S (x0) (0) (0))
def s13_areKeys_b38 (k4 : HP → Int → Int → Int → Option (Int × HP)) (S : HP) (x0 : Int) (x3 : Int) (y0 : Int) : Option (Int × HP) := (k4 S (x0) (y0) ((x3 + 1)))
def s13_areKeys_b37 (k4 : HP → Int → Int → Int → Option (Int × HP)) (S : HP) (x0 : Int) (x3 : Int) : Option (Int × HP) := (s13_areKeys_b38 k4 S (x0) (x3) (0))
def s13_areKeys_b33 (k4 : HP → Int → Int → Int → Option (Int × HP)) (S : HP) (x0 : Int) (x3 : Int) : Option (Int × HP) := (s13_areKeys_b38 k4 S (x0) (x3) (1))
def s13_areKeys_l4 : Nat → HP → Int → Int → Int → Option (Int × HP)
  | 0, _, _, _, _ => none
  | f + 1, S, x0, x2, x3 => let k4 := s13_areKeys_l4 f; (if iW (8) ≤ iW (x3) then zR (x2) S else (if iW (x2) = 0 then (s13_areKeys_b37 k4 S (x0) (x3)) else (s13_keyOf S (x0) (x3)).bind fun q16 => (if iW (q16.1) = 0 then (s13_areKeys_b33 k4 q16.2 (x0) (x3)) else (s13_keyOf q16.2 (x0) (x3)).bind fun q24 => (s13_isKey q24.2 (q24.1)).bind fun q27 => (if iW (q27.1) = 0 then (s13_areKeys_b37 k4 q27.2 (x0) (x3)) else (s13_areKeys_b33 k4 q27.2 (x0) (x3))))))
def s13_areKeys (S : HP) (x0 : Int) : Option (Int × HP) := (s13_areKeys_l4 1000000 S (x0) (1) (0))
def s13_laysFrom_b42 (k6 : HP → Int → Int → Int → Int → Int → Option (Int × HP)) (S : HP) (x0 : Int) (x1 : Int) (x2 : Int) (x4 : Int) (x5 : Int) : Option (Int × HP) := (k6 S (x0) (x1) (x2) (x4) ((x5 + 1)))
def s13_laysFrom_l6 : Nat → HP → Int → Int → Int → Int → Int → Option (Int × HP)
  | 0, _, _, _, _, _, _ => none
  | f + 1, S, x0, x1, x2, x4, x5 => let k6 := s13_laysFrom_l6 f; (if iW (8) ≤ iW (x5) then (gF 13 115 S (x0)).bind fun v49 => (pA 101 S (v49) (x1) (x4)).bind fun S55 => some (x1, S55) else (s13_keyOf S (x2) (x5)).bind fun q16 => (if iW (q16.1) = 0 then (s13_laysFrom_b42 k6 q16.2 (x0) (x1) (x2) (x4) (x5)) else (gF 13 116 q16.2 (x0)).bind fun v23 => (s13_keyOf q16.2 (x2) (x5)).bind fun q35 => (pA 101 q35.2 (v23) (((4 * x1) + x4)) (q35.1)).bind fun S38 => (s13_laysFrom_b42 k6 S38 (x0) (x1) (x2) ((x4 + 1)) (x5))))
def s13_laysFrom (S : HP) (x0 : Int) (x1 : Int) (x2 : Int) : Option (Int × HP) := gd 13 S x0 ((s13_laysFrom_l6 1000000 S (x0) (x1) (x2) (0) (0)))
def s13_mapLike_b123 (k6 : HP → Int → Int → Int → Int → Int → Option (Int × HP)) (S : HP) (x0 : Int) (x1 : Int) (x2 : Int) (x5 : Int) (y0 : Int) : Option (Int × HP) := (k6 S (x0) (x1) (x2) (y0) ((x5 + 1)))
def s13_mapLike_b111 (k6 : HP → Int → Int → Int → Int → Int → Option (Int × HP)) (S : HP) (x0 : Int) (x1 : Int) (x2 : Int) (x4 : Int) (x5 : Int) (x7 : Int) : Option (Int × HP) := (if iW (x7) = 0 then (s13_mapLike_b123 k6 S (x0) (x1) (x2) (x5) (x4)) else (s13_mapLike_b123 k6 S (x0) (x1) (x2) (x5) (x5)))
def s13_mapLike_b105 (k6 : HP → Int → Int → Int → Int → Int → Option (Int × HP)) (k53 : HP → Int → Int → Int → Int → Int → Int → Int → Int → Option (Int × HP)) (S : HP) (x0 : Int) (x1 : Int) (x2 : Int) (x4 : Int) (x5 : Int) (x6 : Int) (x7 : Int) (x8 : Int) : Option (Int × HP) := (k53 S (x0) (x1) (x2) (x4) (x5) (x6) (x7) ((x8 + 1)))
def s13_mapLike_b100 (k6 : HP → Int → Int → Int → Int → Int → Option (Int × HP)) (k53 : HP → Int → Int → Int → Int → Int → Int → Int → Int → Option (Int × HP)) (S : HP) (x0 : Int) (x1 : Int) (x2 : Int) (x4 : Int) (x5 : Int) (x6 : Int) (x8 : Int) (y0 : Int) : Option (Int × HP) := (s13_mapLike_b105 k6 k53 S (x0) (x1) (x2) (x4) (x5) ((x6 + 1)) (y0) (x8))
def s13_mapLike_l53 (k6 : HP → Int → Int → Int → Int → Int → Option (Int × HP)) : Nat → HP → Int → Int → Int → Int → Int → Int → Int → Int → Option (Int × HP)
  | 0, _, _, _, _, _, _, _, _, _ => none
  | f + 1, S, x0, x1, x2, x4, x5, x6, x7, x8 => let k53 := s13_mapLike_l53 k6 f; (if iW (8) ≤ iW (x8) then (s13_mapLike_b111 k6 S (x0) (x1) (x2) (x4) (x5) (x7)) else (if iW (x7) = 0 then (s13_mapLike_b111 k6 S (x0) (x1) (x2) (x4) (x5) (x7)) else (s13_keyOf S (x2) (x8)).bind fun q68 => (if iW (q68.1) = 0 then (s13_mapLike_b105 k6 k53 q68.2 (x0) (x1) (x2) (x4) (x5) (x6) (x7) (x8)) else (gF 13 116 q68.2 (x0)).bind fun v75 => (gA 101 q68.2 (v75) (((4 * x5) + x6))).bind fun v85 => (s13_keyOf q68.2 (x2) (x8)).bind fun q89 => (if iW (v85) = iW (q89.1) then (s13_mapLike_b100 k6 k53 q89.2 (x0) (x1) (x2) (x4) (x5) (x6) (x8) (1)) else (s13_mapLike_b100 k6 k53 q89.2 (x0) (x1) (x2) (x4) (x5) (x6) (x8) (0))))))
def s13_mapLike_b48 (k6 : HP → Int → Int → Int → Int → Int → Option (Int × HP)) (S : HP) (x0 : Int) (x1 : Int) (x2 : Int) (x4 : Int) (x5 : Int) (x6 : Int) (y0 : Int) : Option (Int × HP) := (s13_mapLike_l53 k6 1000000 S (x0) (x1) (x2) (x4) (x5) (x6) (y0) (0))
def s13_mapLike_b47 (k6 : HP → Int → Int → Int → Int → Int → Option (Int × HP)) (S : HP) (x0 : Int) (x1 : Int) (x2 : Int) (x4 : Int) (x5 : Int) (x6 : Int) : Option (Int × HP) := (s13_mapLike_b48 k6 S (x0) (x1) (x2) (x4) (x5) (x6) (0))
def s13_mapLike_l6 : Nat → HP → Int → Int → Int → Int → Int → Option (Int × HP)
  | 0, _, _, _, _, _, _ => none
  | f + 1, S, x0, x1, x2, x4, x5 => let k6 := s13_mapLike_l6 f; (gF 13 113 S (x0)).bind fun v9 => (if iW (v9) ≤ iW (x5) then some (x4, S) else (gF 13 114 S (x0)).bind fun v19 => (gA 101 S (v19) (x5)).bind fun v24 => (if iW (v24) = iW (x1) then (gF 13 115 S (x0)).bind fun v30 => (gA 101 S (v30) (x5)).bind fun v35 => (s13_keysIn S (x2)).bind fun q37 => (if iW (v35) = iW (q37.1) then (s13_mapLike_b48 k6 q37.2 (x0) (x1) (x2) (x4) (x5) (0) (1)) else (s13_mapLike_b47 k6 q37.2 (x0) (x1) (x2) (x4) (x5) (0))) else (s13_mapLike_b47 k6 S (x0) (x1) (x2) (x4) (x5) (0))))
def s13_mapLike (S : HP) (x0 : Int) (x1 : Int) (x2 : Int) : Option (Int × HP) := gd 13 S x0 ((s13_mapLike_l6 1000000 S (x0) (x1) (x2) ((-1)) (0)))
def s13_unmap_l188 (k85 : HP → Int → Int → Option (Int × HP)) : Nat → HP → Int → Int → Int → Option (Int × HP)
  | 0, _, _, _, _ => none
  | f + 1, S, x0, x6, x7 => let k188 := s13_unmap_l188 k85 f; (if iW (9) ≤ iW (x7) then (k85 S (x0) ((x6 + 1))) else (gF 13 117 S (x0)).bind fun v196 => (gF 13 117 S (x0)).bind fun v208 => (gA 101 S (v208) (((9 * (x6 + 1)) + x7))).bind fun v221 => (pA 101 S (v196) (((9 * x6) + x7)) (v221)).bind fun S222 => (k188 S222 (x0) (x6) ((x7 + 1))))
def s13_unmap_l147 (k85 : HP → Int → Int → Option (Int × HP)) : Nat → HP → Int → Int → Int → Option (Int × HP)
  | 0, _, _, _, _ => none
  | f + 1, S, x0, x6, x7 => let k147 := s13_unmap_l147 k85 f; (if iW (4) ≤ iW (x7) then (s13_unmap_l188 k85 1000000 S (x0) (x6) (0)) else (gF 13 116 S (x0)).bind fun v154 => (gF 13 116 S (x0)).bind fun v165 => (gA 101 S (v165) (((4 * (x6 + 1)) + x7))).bind fun v177 => (pA 101 S (v154) (((4 * x6) + x7)) (v177)).bind fun S178 => (k147 S178 (x0) (x6) ((x7 + 1))))
def s13_unmap_l85 : Nat → HP → Int → Int → Option (Int × HP)
  | 0, _, _, _ => none
  | f + 1, S, x0, x6 => let k85 := s13_unmap_l85 f; (gF 13 113 S (x0)).bind fun v90 => (if iW (v90) ≤ iW ((x6 + 1)) then (gF 13 113 S (x0)).bind fun v237 => (pF 13 113 S (x0) ((v237 - 1))).bind fun S242 => (gF 13 113 S242 (x0)).bind fun v246 => some (v246, S242) else (gF 13 114 S (x0)).bind fun v97 => (gF 13 114 S (x0)).bind fun v103 => (gA 101 S (v103) ((x6 + 1))).bind fun v110 => (pA 101 S (v97) (x6) (v110)).bind fun S111 => (gF 13 115 S111 (x0)).bind fun v113 => (gF 13 115 S111 (x0)).bind fun v119 => (gA 101 S111 (v119) ((x6 + 1))).bind fun v126 => (pA 101 S111 (v113) (x6) (v126)).bind fun S127 => (gF 13 118 S127 (x0)).bind fun v129 => (gF 13 118 S127 (x0)).bind fun v135 => (gA 103 S127 (v135) ((x6 + 1))).bind fun v142 => (pA 103 S127 (v129) (x6) (v142)).bind fun S143 => (s13_unmap_l147 k85 1000000 S143 (x0) (x6) (0)))
def s13_unmap_b73 (S : HP) (x0 : Int) (x5 : Int) (y0 : Int) (y1 : Int) : Option (Int × HP) := (s13_can S (y0) (y1)).bind fun q73 => (if iW (q73.1) = 0 then some (0, q73.2) else (s13_unmap_l85 1000000 q73.2 (x0) (x5)))
def s13_unmap_b50 (S : HP) (x0 : Int) (x4 : Int) (y0 : Int) : Option (Int × HP) := (if iW (x4) = 0 then (s13_unmap_b73 S (x0) (y0) (x0) (1)) else (if iW (y0) = iW ((-1)) then (s13_unmap_b73 S (x0) (y0) (x0) (2)) else (s13_unmap_b73 S (x0) (y0) (x0) (0))))
def s13_unmap_b33 (S : HP) (x0 : Int) (x1 : Int) (x2 : Int) (y0 : Int) : Option (Int × HP) := (if iW (y0) = 0 then (s13_unmap_b50 S (x0) (y0) ((-1))) else (s13_mapLike S (x0) (x1) (x2)).bind fun q43 => (s13_unmap_b50 q43.2 (x0) (y0) (q43.1)))
def s13_unmap_b32 (S : HP) (x0 : Int) (x1 : Int) (x2 : Int) : Option (Int × HP) := (s13_unmap_b33 S (x0) (x1) (x2) (0))
def s13_unmap (S : HP) (x0 : Int) (x1 : Int) (x2 : Int) : Option (Int × HP) := gd 13 S x0 ((s13_isIn S (x1) (0) (2)).bind fun q3 => (if iW (q3.1) = 0 then (s13_unmap_b32 q3.2 (x0) (x1) (x2)) else (s13_areKeys q3.2 (x2)).bind fun q10 => (if iW (q10.1) = 0 then (s13_unmap_b32 q10.2 (x0) (x1) (x2)) else (s13_keysIn q10.2 (x2)).bind fun q17 => (s13_isIn q17.2 (q17.1) (1) (4)).bind fun q22 => (if iW (q22.1) = 0 then (s13_unmap_b32 q22.2 (x0) (x1) (x2)) else (s13_unmap_b33 q22.2 (x0) (x1) (x2) (1))))))
def s13_isLine (S : HP) (x0 : Int) (x1 : Int) : Option (Int × HP) := gd 13 S x0 ((gF 13 2 S (x0)).bind fun v3 => (s13_isIn S (x1) (0) ((v3 - 1))).bind fun q8 => zR (q8.1) q8.2)
def s13_sign_b48 (S : HP) (y0 : Int) : Option (Int × HP) := zC (y0) S
def s13_sign_b30 (S : HP) (x0 : Int) (x1 : Int) (x2 : Int) (y0 : Int) (y1 : Int) : Option (Int × HP) := (s13_can S (y0) (y1)).bind fun q30 => (if iW (q30.1) = 0 then (s13_sign_b48 q30.2 (32)) else (s13_at q30.2 (x0) (x1) (x2)).bind fun q39 => (s13_sign_b48 q39.2 ((iC (q39.1)))))
def s13_sign_b29 (S : HP) (x0 : Int) (x1 : Int) (x2 : Int) (y0 : Int) : Option (Int × HP) := (s13_sign_b30 S (x0) (x1) (x2) (y0) (1))
def s13_sign (S : HP) (x0 : Int) (x1 : Int) (x2 : Int) : Option (Int × HP) := gd 13 S x0 ((s13_isLine S (x0) (x1)).bind fun q3 => (if iW (q3.1) = 0 then (s13_sign_b29 q3.2 (x0) (x1) (x2) (x0)) else (gF 13 3 q3.2 (x0)).bind fun v12 => (gA 101 q3.2 (v12) (x1)).bind fun v16 => (s13_isIn q3.2 (x2) (0) ((v16 - 1))).bind fun q19 => (if iW (q19.1) = 0 then (s13_sign_b29 q19.2 (x0) (x1) (x2) (x0)) else (s13_sign_b30 q19.2 (x0) (x1) (x2) (x0) (0)))))
def s13_isRegister_b39 (S : HP) (y0 : Int) : Option (Int × HP) := zR (y0) S
def s13_isRegister_b34 (S : HP) : Option (Int × HP) := (s13_isRegister_b39 S (1))
def s13_isRegister (S : HP) (x0 : Int) : Option (Int × HP) := (s13_isIn S (x0) (97) (122)).bind fun q5 => (if iW (q5.1) = 0 then (s13_isIn q5.2 (x0) (48) (57)).bind fun q16 => (if iW (q16.1) = 0 then (if iW (x0) = iW (45) then (s13_isRegister_b34 q16.2) else (if iW (x0) = iW (34) then (s13_isRegister_b34 q16.2) else (s13_isRegister_b39 q16.2 (0)))) else (s13_isRegister_b34 q16.2)) else (s13_isRegister_b34 q5.2))
def s13_registerAt_b81 (S : HP) (y0 : Int) : Option (Int × HP) := zC (y0) S
def s13_registerAt_b54 (S : HP) (x0 : Int) (x1 : Int) (x2 : Int) (y0 : Int) (y1 : Int) : Option (Int × HP) := (s13_can S (y0) (y1)).bind fun q54 => (if iW (q54.1) = 0 then (s13_registerAt_b81 q54.2 (32)) else (gF 13 13 q54.2 (x0)).bind fun v61 => (s13_registerOf q54.2 (x1)).bind fun q68 => (gA 101 q68.2 (v61) (((3000 * q68.1) + x2))).bind fun v74 => (s13_registerAt_b81 q68.2 ((iC (v74)))))
def s13_registerAt_b33 (S : HP) (x0 : Int) (x1 : Int) (x2 : Int) (x3 : Int) (y0 : Int) : Option (Int × HP) := (if iW (x3) = 0 then (s13_registerAt_b54 S (x0) (x1) (x2) (x0) (1)) else (if iW (y0) = 0 then (s13_registerAt_b54 S (x0) (x1) (x2) (x0) (2)) else (s13_registerAt_b54 S (x0) (x1) (x2) (x0) (0))))
def s13_registerAt_b32 (S : HP) (x0 : Int) (x1 : Int) (x2 : Int) (x3 : Int) : Option (Int × HP) := (s13_registerAt_b33 S (x0) (x1) (x2) (x3) (0))
def s13_registerAt (S : HP) (x0 : Int) (x1 : Int) (x2 : Int) : Option (Int × HP) := gd 13 S x0 ((s13_isRegister S (x1)).bind fun q1 => (if iW (q1.1) = 0 then (s13_registerAt_b32 q1.2 (x0) (x1) (x2) (q1.1)) else (gF 13 12 q1.2 (x0)).bind fun v12 => (s13_registerOf q1.2 (x1)).bind fun q16 => (gA 101 q16.2 (v12) (q16.1)).bind fun v19 => (s13_isIn q16.2 (x2) (0) ((v19 - 1))).bind fun q22 => (if iW (q22.1) = 0 then (s13_registerAt_b32 q22.2 (x0) (x1) (x2) (q1.1)) else (s13_registerAt_b33 q22.2 (x0) (x1) (x2) (q1.1) (1)))))
def s3_indexOf_b38 (k3 : HP → Int → Int → Int → Int → Option (Int × HP)) (S : HP) (x0 : Int) (x1 : Int) (x2 : Int) (x4 : Int) : Option (Int × HP) := (k3 S (x0) (x1) (x2) ((x4 + 1)))
def s3_indexOf_l3 : Nat → HP → Int → Int → Int → Int → Option (Int × HP)
  | 0, _, _, _, _, _ => none
  | f + 1, S, x0, x1, x2, x4 => let k3 := s3_indexOf_l3 f; (gF 3 4 S (x0)).bind fun v6 => (if iW (v6) ≤ iW (x4) then some ((-1), S) else (gF 3 0 S (x0)).bind fun v13 => (gA 101 S (v13) (x4)).bind fun v18 => (if iW (v18) = iW (x1) then (gF 3 1 S (x0)).bind fun v24 => (gA 102 S (v24) (x4)).bind fun v29 => (if iW ((jCm (v29) (x2))) = 0 then some (x4, S) else (s3_indexOf_b38 k3 S (x0) (x1) (x2) (x4))) else (s3_indexOf_b38 k3 S (x0) (x1) (x2) (x4))))
def s3_indexOf (S : HP) (x0 : Int) (x1 : Int) (x2 : Int) : Option (Int × HP) := gd 3 S x0 ((s3_indexOf_l3 1000000 S (x0) (x1) (x2) (0)))
def s3_begins_b34 (S : HP) : Option (Int × HP) := zR (0) S
def s3_begins_l3 : Nat → HP → Int → Int → Int → Int → Option (Int × HP)
  | 0, _, _, _, _, _ => none
  | f + 1, S, x0, x1, x3, x4 => let k3 := s3_begins_l3 f; (if iW (x3) ≤ iW (x4) then zR (1) S else (gF 3 7 S (x0)).bind fun v12 => (if iW (v12) ≤ iW (x4) then (s3_begins_b34 S) else (gF 3 5 S (x0)).bind fun v19 => (gA 101 S (v19) (x4)).bind fun v24 => (s12_byteOf S (x1) (x4)).bind fun q28 => (if iW (v24) = iW (q28.1) then (k3 q28.2 (x0) (x1) (x3) ((x4 + 1))) else (s3_begins_b34 q28.2))))
def s3_begins (S : HP) (x0 : Int) (x1 : Int) (x3 : Int) : Option (Int × HP) := gd 3 S x0 ((s3_begins_l3 1000000 S (x0) (x1) (x3) (0)))
def s3_width_b22 (S : HP) (x2 : Int) : Option (Int × HP) := some (x2, S)
def s3_width_l2 : Nat → HP → Int → Int → Option (Int × HP)
  | 0, _, _, _ => none
  | f + 1, S, x0, x2 => let k2 := s3_width_l2 f; (if iW (8) ≤ iW (x2) then (s3_width_b22 S (x2)) else (s12_byteOf S (x0) (x2)).bind fun q10 => (if iW (q10.1) = 0 then (s3_width_b22 q10.2 (x2)) else (k2 q10.2 (x0) ((x2 + 1)))))
def s3_width (S : HP) (x0 : Int) : Option (Int × HP) := (s3_width_l2 1000000 S (x0) (0))
