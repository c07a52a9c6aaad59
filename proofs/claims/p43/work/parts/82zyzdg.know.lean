-- ===== what is known of a farm =====
theorem IV_43 {h h' : aH} (I : IV h) (K : hk h h') (e : ∀ (c : Nat) j, c ≠ 43 → vw h' c j = vw h c j) : IV h' :=
  IV_w I K (fun c j z => e c j (by omega)) (fun j => e 42 j (by decide)) (fun c j z => e c j (by omega)) (fun c j z z' => e c j (by omega)) ⟨e 72 _ (by decide), e 72 _ (by decide), e 72 _ (by decide), e 72 _ (by decide), e 72 _ (by decide)⟩
theorem agM_of {V W : vS} (e : ∀ (c : Nat) j, 72 ≤ c → c ≤ 111 → W c j = V c j) : agM V W := ⟨fun c j u v => e c j (by omega) (by omega), e 72 _ (by decide) (by decide), e 72 _ (by decide) (by decide), e 72 _ (by decide) (by decide)⟩
def FC (V : vS) (f y t : Int) (T : Int → Int) (W : vS) : Prop := (∀ (c : Nat) j, c < 146 → c ≠ 42 → c ≠ 43 → c ≠ 44 → W c j = V c j) ∧ (∀ j, 0 ≤ j → j < 12 → W 43 j = T j) ∧ W 43 12 = nQ (fun y' => 0 < kM V t y' f) y.toNat

theorem c_3i {n : Nat} {X : aX} {h : aH} {x2 : Int32} {a2 : Int} {q1 : Nat} (S : wS h) (z2 : x2.toInt = a2) (hp : (146 ≤ q1 ∧ ((vw h q1 1 = ((16 : Nat) : Int) ∧ vw h q1 6 = ((q1 + 1 : Nat) : Int)) ∧ vw h q1 7 = ((q1 + 2 : Nat) : Int)) ∧ vw h q1 5 ≤ 300) ∧ IV h) : Pt n X zM3 0 [some (.ref 41), some (.ref q1), some (.int x2), none, none] [] h (qI (fun r h' => wS h' ∧ R3 (vw h) q1 a2 r (vw h') ∧ hk h h' ∧ IV h')) := by
  refine pt_q (pt_and (c_3 S z2 hp.1) (wk_3 S z2 hp.2)) ?_
  rintro v h' ⟨⟨x, ev, S', r⟩, ⟨x', -, -, K, I⟩⟩
  exact ⟨x, ev, S', r, K, I⟩

theorem d2_0 {n : Nat} {X : aX} {h : aH} {P : aH → Prop} {x1 x2 x3 : Int32} {a1 a2 a3 : Int} (S : wS h) (z1 : x1.toInt = a1) (z2 : x2.toInt = a2) (z3 : x3.toInt = a3) (H : ((p1 h a2) ∧ ∀ (q1001 : Nat) (h_1001 : aH), (wS h_1001 ∧ R1 h a2 a3 q1001 h_1001) → ((vw h_1001) q1001 10 = (((q1001 + 5) : Nat) : Int) ∧ (0 ≤ a1 → (((146 ≤ q1001 ∧ ((vw h_1001 q1001 1 = ((16 : Nat) : Int) ∧ vw h_1001 q1001 6 = ((q1001 + 1 : Nat) : Int)) ∧ vw h_1001 q1001 7 = ((q1001 + 2 : Nat) : Int)) ∧ vw h_1001 q1001 5 ≤ 300) ∧ IV h_1001) ∧ ∀ (y1004 : Int) (h_1004 : aH), (wS h_1004 ∧ R3 (vw h_1001) q1001 a1 y1004 (vw h_1004) ∧ hk h_1001 h_1004 ∧ IV h_1004) → (0 ≤ a1 → a1 < 150 → ((up (up (up (vw h_1004) 43 0 a2) 43 1 (vw h_1004 2 a1)) 43 2 (vw h_1001 (q1001 + 5) a1)) q1001 11 = (((q1001 + 6) : Nat) : Int) ∧ (0 ≤ a1 → ((vw h_1001 (q1001 + 5) a1 ≠ 0 → ∀ h_1029 : aH, wS h_1029 → vw h_1029 = up (up (up (up (up (vw h_1004) 43 0 a2) 43 1 (vw h_1004 2 a1)) 43 2 (vw h_1001 (q1001 + 5) a1)) 43 3 (w32 ((vw h_1001 (q1001 + 5) a1) - ((up (up (up (vw h_1004) 43 0 a2) 43 1 (vw h_1004 2 a1)) 43 2 (vw h_1001 (q1001 + 5) a1)) (q1001 + 6) a1)))) 43 4 (iDiv (w32 (100 * y1004)) (vw h_1001 (q1001 + 5) a1)) → hk h_1004 h_1029 → ((vw h_1001 (q1001 + 5) a1 ≠ 0 → ∀ h_1033 : aH, wS h_1033 → vw h_1033 = up (vw h_1029) 43 5 (nQ (fun j => 0 < (vw h_1029) 44 j) 8) → hk h_1029 h_1033 → ((up (vw h_1033) 43 6 (iDiv (w32 (100 * (mxN (fun j => (vw h_1033) 44 j) 8))) (vw h_1001 (q1001 + 5) a1))) q1001 12 = (((q1001 + 7) : Nat) : Int) ∧ (0 ≤ a1 → (((up (vw h_1033) 43 6 (iDiv (w32 (100 * (mxN (fun j => (vw h_1033) 44 j) 8))) (vw h_1001 (q1001 + 5) a1))) (q1001 + 7) a1 ≠ (-1) → ((up (vw h_1033) 43 6 (iDiv (w32 (100 * (mxN (fun j => (vw h_1033) 44 j) 8))) (vw h_1001 (q1001 + 5) a1))) q1001 12 = (((q1001 + 7) : Nat) : Int) ∧ (0 ≤ a1 → ∀ h_1041 : aH, wS h_1041 → vw h_1041 = up (vw h_1033) 43 6 (iDiv (w32 (100 * (mxN (fun j => (vw h_1033) 44 j) 8))) (vw h_1001 (q1001 + 5) a1)) → hk h_1033 h_1041 → ∀ h_1052 : aH, wS h_1052 → vw h_1052 = up (vw h_1041) 43 7 (lt1 (vw h_1041) ((up (vw h_1033) 43 6 (iDiv (w32 (100 * (mxN (fun j => (vw h_1033) 44 j) 8))) (vw h_1001 (q1001 + 5) a1))) (q1001 + 7) a1)) → hk h_1041 h_1052 → ((PR102 (vw h_1052) q1001) ∧ ∀ h_1056 : aH, wS h_1056 → vw h_1056 = up (vw h_1052) 43 8 (cErr (vw h_1052) q1001 a1) → hk h_1052 h_1056 → ((vw h_1056 1 6 ≤ 200 ∧ vw h_1056 1 4 ≤ 150) ∧ ∀ h_1064 : aH, wS h_1064 → vw h_1064 = up (up (vw h_1056) 43 9 (nQ (fun i => cHold (vw h_1056) ((vw h_1056) 6 i) (ldY a2) a3 = a1) ((vw h_1056) 1 4).toNat)) 43 10 0 → hk h_1056 h_1064 → ((¬ (cPrv (vw h_1064) a1 a2 a3) → ∀ h_1075 : aH, wS h_1075 → vw h_1075 = up (up (vw h_1064) 43 11 0) 43 12 0 → hk h_1064 h_1075 → (∀ (w5 : Int32) (w6 : Int32) (w7 : Int32), w5.toInt = vw h_1001 (q1001 + 5) a1 → w6.toInt = y1004 → w7.toInt = 0 → Pt n X zM2 238 [some (.ref 41), some (.int x1), some (.int x2), some (.int x3), some (.ref q1001), some (.int w5), some (.int w6), some (.int w7)] [] h_1075 (qN P))) ∧ ((cPrv (vw h_1064) a1 a2 a3) → ∀ h_1082 : aH, wS h_1082 → vw h_1082 = up (up (vw h_1064) 43 11 1) 43 12 0 → hk h_1064 h_1082 → (∀ (w5 : Int32) (w6 : Int32) (w7 : Int32), w5.toInt = vw h_1001 (q1001 + 5) a1 → w6.toInt = y1004 → w7.toInt = 0 → Pt n X zM2 238 [some (.ref 41), some (.int x1), some (.int x2), some (.int x3), some (.ref q1001), some (.int w5), some (.int w6), some (.int w7)] [] h_1082 (qN P))))))))) ∧ ((up (vw h_1033) 43 6 (iDiv (w32 (100 * (mxN (fun j => (vw h_1033) 44 j) 8))) (vw h_1001 (q1001 + 5) a1))) (q1001 + 7) a1 = (-1) → ∀ h_1085 : aH, wS h_1085 → vw h_1085 = up (up (vw h_1033) 43 6 (iDiv (w32 (100 * (mxN (fun j => (vw h_1033) 44 j) 8))) (vw h_1001 (q1001 + 5) a1))) 43 7 0 → hk h_1033 h_1085 → ((PR102 (vw h_1085) q1001) ∧ ∀ h_1089 : aH, wS h_1089 → vw h_1089 = up (vw h_1085) 43 8 (cErr (vw h_1085) q1001 a1) → hk h_1085 h_1089 → ((vw h_1089 1 6 ≤ 200 ∧ vw h_1089 1 4 ≤ 150) ∧ ∀ h_1097 : aH, wS h_1097 → vw h_1097 = up (up (vw h_1089) 43 9 (nQ (fun i => cHold (vw h_1089) ((vw h_1089) 6 i) (ldY a2) a3 = a1) ((vw h_1089) 1 4).toNat)) 43 10 0 → hk h_1089 h_1097 → ((¬ (cPrv (vw h_1097) a1 a2 a3) → ∀ h_1108 : aH, wS h_1108 → vw h_1108 = up (up (vw h_1097) 43 11 0) 43 12 0 → hk h_1097 h_1108 → (∀ (w5 : Int32) (w6 : Int32) (w7 : Int32), w5.toInt = vw h_1001 (q1001 + 5) a1 → w6.toInt = y1004 → w7.toInt = 0 → Pt n X zM2 238 [some (.ref 41), some (.int x1), some (.int x2), some (.int x3), some (.ref q1001), some (.int w5), some (.int w6), some (.int w7)] [] h_1108 (qN P))) ∧ ((cPrv (vw h_1097) a1 a2 a3) → ∀ h_1115 : aH, wS h_1115 → vw h_1115 = up (up (vw h_1097) 43 11 1) 43 12 0 → hk h_1097 h_1115 → (∀ (w5 : Int32) (w6 : Int32) (w7 : Int32), w5.toInt = vw h_1001 (q1001 + 5) a1 → w6.toInt = y1004 → w7.toInt = 0 → Pt n X zM2 238 [some (.ref 41), some (.int x1), some (.int x2), some (.int x3), some (.ref q1001), some (.int w5), some (.int w6), some (.int w7)] [] h_1115 (qN P))))))))))) ∧ (vw h_1001 (q1001 + 5) a1 = 0 → ((up (up (vw h_1029) 43 5 (nQ (fun j => 0 < (vw h_1029) 44 j) 8)) 43 6 0) q1001 12 = (((q1001 + 7) : Nat) : Int) ∧ (0 ≤ a1 → (((up (up (vw h_1029) 43 5 (nQ (fun j => 0 < (vw h_1029) 44 j) 8)) 43 6 0) (q1001 + 7) a1 ≠ (-1) → ((up (up (vw h_1029) 43 5 (nQ (fun j => 0 < (vw h_1029) 44 j) 8)) 43 6 0) q1001 12 = (((q1001 + 7) : Nat) : Int) ∧ (0 ≤ a1 → ∀ h_1118 : aH, wS h_1118 → vw h_1118 = up (up (vw h_1029) 43 5 (nQ (fun j => 0 < (vw h_1029) 44 j) 8)) 43 6 0 → hk h_1029 h_1118 → ∀ h_1129 : aH, wS h_1129 → vw h_1129 = up (vw h_1118) 43 7 (lt1 (vw h_1118) ((up (up (vw h_1029) 43 5 (nQ (fun j => 0 < (vw h_1029) 44 j) 8)) 43 6 0) (q1001 + 7) a1)) → hk h_1118 h_1129 → ((PR102 (vw h_1129) q1001) ∧ ∀ h_1133 : aH, wS h_1133 → vw h_1133 = up (vw h_1129) 43 8 (cErr (vw h_1129) q1001 a1) → hk h_1129 h_1133 → ((vw h_1133 1 6 ≤ 200 ∧ vw h_1133 1 4 ≤ 150) ∧ ∀ h_1141 : aH, wS h_1141 → vw h_1141 = up (up (vw h_1133) 43 9 (nQ (fun i => cHold (vw h_1133) ((vw h_1133) 6 i) (ldY a2) a3 = a1) ((vw h_1133) 1 4).toNat)) 43 10 0 → hk h_1133 h_1141 → ((¬ (cPrv (vw h_1141) a1 a2 a3) → ∀ h_1152 : aH, wS h_1152 → vw h_1152 = up (up (vw h_1141) 43 11 0) 43 12 0 → hk h_1141 h_1152 → (∀ (w5 : Int32) (w6 : Int32) (w7 : Int32), w5.toInt = vw h_1001 (q1001 + 5) a1 → w6.toInt = y1004 → w7.toInt = 0 → Pt n X zM2 238 [some (.ref 41), some (.int x1), some (.int x2), some (.int x3), some (.ref q1001), some (.int w5), some (.int w6), some (.int w7)] [] h_1152 (qN P))) ∧ ((cPrv (vw h_1141) a1 a2 a3) → ∀ h_1159 : aH, wS h_1159 → vw h_1159 = up (up (vw h_1141) 43 11 1) 43 12 0 → hk h_1141 h_1159 → (∀ (w5 : Int32) (w6 : Int32) (w7 : Int32), w5.toInt = vw h_1001 (q1001 + 5) a1 → w6.toInt = y1004 → w7.toInt = 0 → Pt n X zM2 238 [some (.ref 41), some (.int x1), some (.int x2), some (.int x3), some (.ref q1001), some (.int w5), some (.int w6), some (.int w7)] [] h_1159 (qN P))))))))) ∧ ((up (up (vw h_1029) 43 5 (nQ (fun j => 0 < (vw h_1029) 44 j) 8)) 43 6 0) (q1001 + 7) a1 = (-1) → ∀ h_1162 : aH, wS h_1162 → vw h_1162 = up (up (up (vw h_1029) 43 5 (nQ (fun j => 0 < (vw h_1029) 44 j) 8)) 43 6 0) 43 7 0 → hk h_1029 h_1162 → ((PR102 (vw h_1162) q1001) ∧ ∀ h_1166 : aH, wS h_1166 → vw h_1166 = up (vw h_1162) 43 8 (cErr (vw h_1162) q1001 a1) → hk h_1162 h_1166 → ((vw h_1166 1 6 ≤ 200 ∧ vw h_1166 1 4 ≤ 150) ∧ ∀ h_1174 : aH, wS h_1174 → vw h_1174 = up (up (vw h_1166) 43 9 (nQ (fun i => cHold (vw h_1166) ((vw h_1166) 6 i) (ldY a2) a3 = a1) ((vw h_1166) 1 4).toNat)) 43 10 0 → hk h_1166 h_1174 → ((¬ (cPrv (vw h_1174) a1 a2 a3) → ∀ h_1185 : aH, wS h_1185 → vw h_1185 = up (up (vw h_1174) 43 11 0) 43 12 0 → hk h_1174 h_1185 → (∀ (w5 : Int32) (w6 : Int32) (w7 : Int32), w5.toInt = vw h_1001 (q1001 + 5) a1 → w6.toInt = y1004 → w7.toInt = 0 → Pt n X zM2 238 [some (.ref 41), some (.int x1), some (.int x2), some (.int x3), some (.ref q1001), some (.int w5), some (.int w6), some (.int w7)] [] h_1185 (qN P))) ∧ ((cPrv (vw h_1174) a1 a2 a3) → ∀ h_1192 : aH, wS h_1192 → vw h_1192 = up (up (vw h_1174) 43 11 1) 43 12 0 → hk h_1174 h_1192 → (∀ (w5 : Int32) (w6 : Int32) (w7 : Int32), w5.toInt = vw h_1001 (q1001 + 5) a1 → w6.toInt = y1004 → w7.toInt = 0 → Pt n X zM2 238 [some (.ref 41), some (.int x1), some (.int x2), some (.int x3), some (.ref q1001), some (.int w5), some (.int w6), some (.int w7)] [] h_1192 (qN P))))))))))))) ∧ (vw h_1001 (q1001 + 5) a1 = 0 → ∀ h_1195 : aH, wS h_1195 → vw h_1195 = up (up (up (up (up (vw h_1004) 43 0 a2) 43 1 (vw h_1004 2 a1)) 43 2 (vw h_1001 (q1001 + 5) a1)) 43 3 (w32 ((vw h_1001 (q1001 + 5) a1) - ((up (up (up (vw h_1004) 43 0 a2) 43 1 (vw h_1004 2 a1)) 43 2 (vw h_1001 (q1001 + 5) a1)) (q1001 + 6) a1)))) 43 4 0 → hk h_1004 h_1195 → ((vw h_1001 (q1001 + 5) a1 ≠ 0 → ∀ h_1199 : aH, wS h_1199 → vw h_1199 = up (vw h_1195) 43 5 (nQ (fun j => 0 < (vw h_1195) 44 j) 8) → hk h_1195 h_1199 → ((up (vw h_1199) 43 6 (iDiv (w32 (100 * (mxN (fun j => (vw h_1199) 44 j) 8))) (vw h_1001 (q1001 + 5) a1))) q1001 12 = (((q1001 + 7) : Nat) : Int) ∧ (0 ≤ a1 → (((up (vw h_1199) 43 6 (iDiv (w32 (100 * (mxN (fun j => (vw h_1199) 44 j) 8))) (vw h_1001 (q1001 + 5) a1))) (q1001 + 7) a1 ≠ (-1) → ((up (vw h_1199) 43 6 (iDiv (w32 (100 * (mxN (fun j => (vw h_1199) 44 j) 8))) (vw h_1001 (q1001 + 5) a1))) q1001 12 = (((q1001 + 7) : Nat) : Int) ∧ (0 ≤ a1 → ∀ h_1207 : aH, wS h_1207 → vw h_1207 = up (vw h_1199) 43 6 (iDiv (w32 (100 * (mxN (fun j => (vw h_1199) 44 j) 8))) (vw h_1001 (q1001 + 5) a1)) → hk h_1199 h_1207 → ∀ h_1218 : aH, wS h_1218 → vw h_1218 = up (vw h_1207) 43 7 (lt1 (vw h_1207) ((up (vw h_1199) 43 6 (iDiv (w32 (100 * (mxN (fun j => (vw h_1199) 44 j) 8))) (vw h_1001 (q1001 + 5) a1))) (q1001 + 7) a1)) → hk h_1207 h_1218 → ((PR102 (vw h_1218) q1001) ∧ ∀ h_1222 : aH, wS h_1222 → vw h_1222 = up (vw h_1218) 43 8 (cErr (vw h_1218) q1001 a1) → hk h_1218 h_1222 → ((vw h_1222 1 6 ≤ 200 ∧ vw h_1222 1 4 ≤ 150) ∧ ∀ h_1230 : aH, wS h_1230 → vw h_1230 = up (up (vw h_1222) 43 9 (nQ (fun i => cHold (vw h_1222) ((vw h_1222) 6 i) (ldY a2) a3 = a1) ((vw h_1222) 1 4).toNat)) 43 10 0 → hk h_1222 h_1230 → ((¬ (cPrv (vw h_1230) a1 a2 a3) → ∀ h_1241 : aH, wS h_1241 → vw h_1241 = up (up (vw h_1230) 43 11 0) 43 12 0 → hk h_1230 h_1241 → (∀ (w5 : Int32) (w6 : Int32) (w7 : Int32), w5.toInt = vw h_1001 (q1001 + 5) a1 → w6.toInt = y1004 → w7.toInt = 0 → Pt n X zM2 238 [some (.ref 41), some (.int x1), some (.int x2), some (.int x3), some (.ref q1001), some (.int w5), some (.int w6), some (.int w7)] [] h_1241 (qN P))) ∧ ((cPrv (vw h_1230) a1 a2 a3) → ∀ h_1248 : aH, wS h_1248 → vw h_1248 = up (up (vw h_1230) 43 11 1) 43 12 0 → hk h_1230 h_1248 → (∀ (w5 : Int32) (w6 : Int32) (w7 : Int32), w5.toInt = vw h_1001 (q1001 + 5) a1 → w6.toInt = y1004 → w7.toInt = 0 → Pt n X zM2 238 [some (.ref 41), some (.int x1), some (.int x2), some (.int x3), some (.ref q1001), some (.int w5), some (.int w6), some (.int w7)] [] h_1248 (qN P))))))))) ∧ ((up (vw h_1199) 43 6 (iDiv (w32 (100 * (mxN (fun j => (vw h_1199) 44 j) 8))) (vw h_1001 (q1001 + 5) a1))) (q1001 + 7) a1 = (-1) → ∀ h_1251 : aH, wS h_1251 → vw h_1251 = up (up (vw h_1199) 43 6 (iDiv (w32 (100 * (mxN (fun j => (vw h_1199) 44 j) 8))) (vw h_1001 (q1001 + 5) a1))) 43 7 0 → hk h_1199 h_1251 → ((PR102 (vw h_1251) q1001) ∧ ∀ h_1255 : aH, wS h_1255 → vw h_1255 = up (vw h_1251) 43 8 (cErr (vw h_1251) q1001 a1) → hk h_1251 h_1255 → ((vw h_1255 1 6 ≤ 200 ∧ vw h_1255 1 4 ≤ 150) ∧ ∀ h_1263 : aH, wS h_1263 → vw h_1263 = up (up (vw h_1255) 43 9 (nQ (fun i => cHold (vw h_1255) ((vw h_1255) 6 i) (ldY a2) a3 = a1) ((vw h_1255) 1 4).toNat)) 43 10 0 → hk h_1255 h_1263 → ((¬ (cPrv (vw h_1263) a1 a2 a3) → ∀ h_1274 : aH, wS h_1274 → vw h_1274 = up (up (vw h_1263) 43 11 0) 43 12 0 → hk h_1263 h_1274 → (∀ (w5 : Int32) (w6 : Int32) (w7 : Int32), w5.toInt = vw h_1001 (q1001 + 5) a1 → w6.toInt = y1004 → w7.toInt = 0 → Pt n X zM2 238 [some (.ref 41), some (.int x1), some (.int x2), some (.int x3), some (.ref q1001), some (.int w5), some (.int w6), some (.int w7)] [] h_1274 (qN P))) ∧ ((cPrv (vw h_1263) a1 a2 a3) → ∀ h_1281 : aH, wS h_1281 → vw h_1281 = up (up (vw h_1263) 43 11 1) 43 12 0 → hk h_1263 h_1281 → (∀ (w5 : Int32) (w6 : Int32) (w7 : Int32), w5.toInt = vw h_1001 (q1001 + 5) a1 → w6.toInt = y1004 → w7.toInt = 0 → Pt n X zM2 238 [some (.ref 41), some (.int x1), some (.int x2), some (.int x3), some (.ref q1001), some (.int w5), some (.int w6), some (.int w7)] [] h_1281 (qN P))))))))))) ∧ (vw h_1001 (q1001 + 5) a1 = 0 → ((up (up (vw h_1195) 43 5 (nQ (fun j => 0 < (vw h_1195) 44 j) 8)) 43 6 0) q1001 12 = (((q1001 + 7) : Nat) : Int) ∧ (0 ≤ a1 → (((up (up (vw h_1195) 43 5 (nQ (fun j => 0 < (vw h_1195) 44 j) 8)) 43 6 0) (q1001 + 7) a1 ≠ (-1) → ((up (up (vw h_1195) 43 5 (nQ (fun j => 0 < (vw h_1195) 44 j) 8)) 43 6 0) q1001 12 = (((q1001 + 7) : Nat) : Int) ∧ (0 ≤ a1 → ∀ h_1284 : aH, wS h_1284 → vw h_1284 = up (up (vw h_1195) 43 5 (nQ (fun j => 0 < (vw h_1195) 44 j) 8)) 43 6 0 → hk h_1195 h_1284 → ∀ h_1295 : aH, wS h_1295 → vw h_1295 = up (vw h_1284) 43 7 (lt1 (vw h_1284) ((up (up (vw h_1195) 43 5 (nQ (fun j => 0 < (vw h_1195) 44 j) 8)) 43 6 0) (q1001 + 7) a1)) → hk h_1284 h_1295 → ((PR102 (vw h_1295) q1001) ∧ ∀ h_1299 : aH, wS h_1299 → vw h_1299 = up (vw h_1295) 43 8 (cErr (vw h_1295) q1001 a1) → hk h_1295 h_1299 → ((vw h_1299 1 6 ≤ 200 ∧ vw h_1299 1 4 ≤ 150) ∧ ∀ h_1307 : aH, wS h_1307 → vw h_1307 = up (up (vw h_1299) 43 9 (nQ (fun i => cHold (vw h_1299) ((vw h_1299) 6 i) (ldY a2) a3 = a1) ((vw h_1299) 1 4).toNat)) 43 10 0 → hk h_1299 h_1307 → ((¬ (cPrv (vw h_1307) a1 a2 a3) → ∀ h_1318 : aH, wS h_1318 → vw h_1318 = up (up (vw h_1307) 43 11 0) 43 12 0 → hk h_1307 h_1318 → (∀ (w5 : Int32) (w6 : Int32) (w7 : Int32), w5.toInt = vw h_1001 (q1001 + 5) a1 → w6.toInt = y1004 → w7.toInt = 0 → Pt n X zM2 238 [some (.ref 41), some (.int x1), some (.int x2), some (.int x3), some (.ref q1001), some (.int w5), some (.int w6), some (.int w7)] [] h_1318 (qN P))) ∧ ((cPrv (vw h_1307) a1 a2 a3) → ∀ h_1325 : aH, wS h_1325 → vw h_1325 = up (up (vw h_1307) 43 11 1) 43 12 0 → hk h_1307 h_1325 → (∀ (w5 : Int32) (w6 : Int32) (w7 : Int32), w5.toInt = vw h_1001 (q1001 + 5) a1 → w6.toInt = y1004 → w7.toInt = 0 → Pt n X zM2 238 [some (.ref 41), some (.int x1), some (.int x2), some (.int x3), some (.ref q1001), some (.int w5), some (.int w6), some (.int w7)] [] h_1325 (qN P))))))))) ∧ ((up (up (vw h_1195) 43 5 (nQ (fun j => 0 < (vw h_1195) 44 j) 8)) 43 6 0) (q1001 + 7) a1 = (-1) → ∀ h_1328 : aH, wS h_1328 → vw h_1328 = up (up (up (vw h_1195) 43 5 (nQ (fun j => 0 < (vw h_1195) 44 j) 8)) 43 6 0) 43 7 0 → hk h_1195 h_1328 → ((PR102 (vw h_1328) q1001) ∧ ∀ h_1332 : aH, wS h_1332 → vw h_1332 = up (vw h_1328) 43 8 (cErr (vw h_1328) q1001 a1) → hk h_1328 h_1332 → ((vw h_1332 1 6 ≤ 200 ∧ vw h_1332 1 4 ≤ 150) ∧ ∀ h_1340 : aH, wS h_1340 → vw h_1340 = up (up (vw h_1332) 43 9 (nQ (fun i => cHold (vw h_1332) ((vw h_1332) 6 i) (ldY a2) a3 = a1) ((vw h_1332) 1 4).toNat)) 43 10 0 → hk h_1332 h_1340 → ((¬ (cPrv (vw h_1340) a1 a2 a3) → ∀ h_1351 : aH, wS h_1351 → vw h_1351 = up (up (vw h_1340) 43 11 0) 43 12 0 → hk h_1340 h_1351 → (∀ (w5 : Int32) (w6 : Int32) (w7 : Int32), w5.toInt = vw h_1001 (q1001 + 5) a1 → w6.toInt = y1004 → w7.toInt = 0 → Pt n X zM2 238 [some (.ref 41), some (.int x1), some (.int x2), some (.int x3), some (.ref q1001), some (.int w5), some (.int w6), some (.int w7)] [] h_1351 (qN P))) ∧ ((cPrv (vw h_1340) a1 a2 a3) → ∀ h_1358 : aH, wS h_1358 → vw h_1358 = up (up (vw h_1340) 43 11 1) 43 12 0 → hk h_1340 h_1358 → (∀ (w5 : Int32) (w6 : Int32) (w7 : Int32), w5.toInt = vw h_1001 (q1001 + 5) a1 → w6.toInt = y1004 → w7.toInt = 0 → Pt n X zM2 238 [some (.ref 41), some (.int x1), some (.int x2), some (.int x3), some (.ref q1001), some (.int w5), some (.int w6), some (.int w7)] [] h_1358 (qN P)))))))))))))))))))))) : Pt (n + 1) X zM2 0 [some (.ref 41), some (.int x1), some (.int x2), some (.int x3), none, none, none, none] [] h (qN P) := by
  refine pt_1 (fun n d => r_aloadn gx2_0 rfl) ?_
  refine pt_d (pt_1 (fun n d => r_iloadn gx2_1 rfl) ?_)
  refine pt_d (pt_1 (fun n d => r_iloadn gx2_2 rfl) ?_)
  obtain ⟨pr1001, H⟩ := H
  refine pt_d (pt_virt (as := [.int x2, .int x3]) (r := []) gx2_3 rfl (show zmt[1]? = some zM1 from rfl) rfl rfl rfl rfl (c_1 S z2 z3 pr1001) (kqR (fun q1001 h_1001 P1001 => ?_)))
  have S1001 := P1001.1
  have H := H q1001 h_1001 P1001
  show Pt _ _ _ 6 _ [.ref q1001] _ _
  refine pt_d (pt_1 (fun n d => r_astore (L' := [some (.ref 41), some (.int x1), some (.int x2), some (.int x3), some (.ref q1001), none, none, none]) gx2_6 rfl rfl) ?_)
  refine pt_d (pt_1 (fun n d => r_aload gx2_8 rfl) ?_)
  obtain ⟨pr1002, H⟩ := H
  refine pt_d (pt_getK (B := 10) gx2_10 S1001 (pr1002) ?_)
  refine pt_d (pt_1 (fun n d => r_iloadn gx2_13 rfl) ?_)
  refine pt_d (pt_ialdD gx2_14 z1 (fun v1003 p1003 h1003 => ?_))
  have H := H p1003
  refine pt_d (pt_1 (fun n d => r_istore (L' := [some (.ref 41), some (.int x1), some (.int x2), some (.int x3), some (.ref q1001), some (.int v1003), none, none]) gx2_15 rfl rfl) ?_)
  refine pt_d (pt_1 (fun n d => r_aloadn gx2_17 rfl) ?_)
  refine pt_d (pt_1 (fun n d => r_aload gx2_18 rfl) ?_)
  refine pt_d (pt_1 (fun n d => r_iloadn gx2_20 rfl) ?_)
  obtain ⟨pr1004, H⟩ := H
  refine pt_d (pt_virt (as := [.ref q1001, .int x1]) (r := []) gx2_21 rfl (show zmt[3]? = some zM3 from rfl) rfl rfl rfl rfl (c_3i S1001 z1 pr1004) (kqI (fun v1004 y1004 h_1004 h1004 P1004 => ?_)))
  have S1004 := P1004.1
  have H := H y1004 h_1004 P1004
  show Pt _ _ _ 24 _ [.int v1004] _ _
  refine pt_d (pt_1 (fun n d => r_istore (L' := [some (.ref 41), some (.int x1), some (.int x2), some (.int x3), some (.ref q1001), some (.int v1003), some (.int v1004), none]) gx2_24 rfl rfl) ?_)
  refine pt_d (pt_1 (fun n d => r_aloadn gx2_26 rfl) ?_)
  refine pt_d (pt_getR gx2_27 S1004 tr_41_4 ?_)
  refine pt_d (pt_iconst gx2_30 (fun v1006 h1006 => ?_))
  refine pt_d (pt_1 (fun n d => r_iloadn gx2_31 rfl) ?_)
  refine pt_d (pt_iasth (N' := 13) gx2_32 S1004 tl_43 h1006 z2 (fun h_1007 S1007 p1007 q1007 e1007 K1007 => ?_))
  refine pt_d (pt_1 (fun n d => r_aloadn gx2_33 rfl) ?_)
  refine pt_d (pt_getR gx2_34 S1007 tr_41_4 ?_)
  refine pt_d (pt_iconst gx2_37 (fun v1009 h1009 => ?_))
  refine pt_d (pt_1 (fun n d => r_aloadn gx2_38 rfl) ?_)
  refine pt_d (pt_getR gx2_39 S1007 tr_41_0 ?_)
  refine pt_d (pt_getR gx2_42 S1007 tr_1_7 ?_)
  refine pt_d (pt_1 (fun n d => r_iloadn gx2_45 rfl) ?_)
  refine pt_d (pt_iald (N' := 150) gx2_46 S1007 tl_2 z1 (fun v1012 p1012 q1012 h1012 => ?_))
  have H := H p1012 q1012
  have h1012 : v1012.toInt = vw h_1004 2 a1 := by rw [h1012, e1007, up_c (by decide)]
  refine pt_d (pt_iasth (N' := 13) gx2_47 S1007 tl_43 h1009 h1012 (fun h_1013 S1013 p1013 q1013 e1013 K1013 => ?_))
  refine pt_d (pt_1 (fun n d => r_aloadn gx2_48 rfl) ?_)
  refine pt_d (pt_getR gx2_49 S1013 tr_41_4 ?_)
  refine pt_d (pt_iconst gx2_52 (fun v1015 h1015 => ?_))
  refine pt_d (pt_1 (fun n d => r_iload gx2_53 rfl) ?_)
  refine pt_d (pt_iasth (N' := 13) gx2_55 S1013 tl_43 h1015 h1003 (fun h_1016 S1016 p1016 q1016 e1016 K1016 => ?_))
  refine pt_d (pt_1 (fun n d => r_aloadn gx2_56 rfl) ?_)
  refine pt_d (pt_getR gx2_57 S1016 tr_41_4 ?_)
  refine pt_d (pt_iconst gx2_60 (fun v1018 h1018 => ?_))
  refine pt_d (pt_1 (fun n d => r_iload gx2_61 rfl) ?_)
  refine pt_d (pt_1 (fun n d => r_aload gx2_63 rfl) ?_)
  obtain ⟨pr1019, H⟩ := H
  refine pt_d (pt_getK (B := 11) gx2_65 S1016 (by rw [e1016, e1013, e1007]; exact pr1019) ?_)
  refine pt_d (pt_1 (fun n d => r_iloadn gx2_68 rfl) ?_)
  refine pt_d (pt_ialdD gx2_69 z1 (fun v1020 p1020 h1020 => ?_))
  have H := H p1020
  have h1020 : v1020.toInt = (up (up (up (vw h_1004) 43 0 a2) 43 1 (vw h_1004 2 a1)) 43 2 (vw h_1001 (q1001 + 5) a1)) (q1001 + 6) a1 := by rw [h1020, e1016, e1013, e1007]
  refine pt_d (pt_isub gx2_70 h1003 h1020 (fun v1021 h1021 => ?_))
  refine pt_d (pt_iasth (N' := 13) gx2_71 S1016 tl_43 h1018 h1021 (fun h_1022 S1022 p1022 q1022 e1022 K1022 => ?_))
  refine pt_d (pt_1 (fun n d => r_aloadn gx2_72 rfl) ?_)
  refine pt_d (pt_getR gx2_73 S1022 tr_41_4 ?_)
  refine pt_d (pt_iconst gx2_76 (fun v1024 h1024 => ?_))
  refine pt_d (pt_1 (fun n d => r_iload gx2_77 rfl) ?_)
  refine pt_d (pt_if_ne gx2_79 h1003 (fun e1025 => ?_) (fun e1025 => ?_))
  · have H := H.1 e1025
    refine pt_d (pt_bipush gx2_86 (fun v1026 h1026 => ?_))
    refine pt_d (pt_1 (fun n d => r_iload gx2_88 rfl) ?_)
    refine pt_d (pt_imul gx2_90 h1026 h1004 (fun v1027 h1027 => ?_))
    refine pt_d (pt_1 (fun n d => r_iload gx2_91 rfl) ?_)
    refine pt_d (pt_idiv gx2_93 h1027 h1003 (fun v1028 h1028 => ?_))
    refine pt_d (pt_iasth (N' := 13) gx2_94 S1022 tl_43 h1024 h1028 (fun h_1029 S1029 p1029 q1029 e1029 K1029 => ?_))
    refine pt_d (pt_1 (fun n d => r_aloadn gx2_95 rfl) ?_)
    refine pt_d (pt_getR gx2_96 S1029 tr_41_4 ?_)
    refine pt_d (pt_iconst gx2_99 (fun v1031 h1031 => ?_))
    refine pt_d (pt_1 (fun n d => r_aloadn gx2_100 rfl) ?_)
    have H := H h_1029 S1029 (by rw [e1029, e1022, e1016, e1013, e1007]) (hk_t (hk_t (hk_t (hk_t K1007 K1013) K1016) K1022) K1029)
    refine pt_d (pt_virt (as := []) (r := [.int v1031, .ref 43]) gx2_101 rfl (show zmt[4]? = some zM4 from rfl) rfl rfl rfl rfl (c_4 S1029) (kqP (fun v1032 h1032 => ?_)))
    show Pt _ _ _ 104 _ [.int v1032, .int v1031, .ref 43] _ _
    refine pt_d (pt_iasth (N' := 13) gx2_104 S1029 tl_43 h1031 h1032 (fun h_1033 S1033 p1033 q1033 e1033 K1033 => ?_))
    refine pt_d (pt_1 (fun n d => r_aloadn gx2_105 rfl) ?_)
    refine pt_d (pt_getR gx2_106 S1033 tr_41_4 ?_)
    refine pt_d (pt_bipush gx2_109 (fun v1035 h1035 => ?_))
    refine pt_d (pt_1 (fun n d => r_iload gx2_111 rfl) ?_)
    refine pt_d (pt_if_ne gx2_113 h1003 (fun e1036 => ?_) (fun e1036 => ?_))
    · have H := H.1 e1036
      refine pt_d (pt_bipush gx2_120 (fun v1037 h1037 => ?_))
      refine pt_d (pt_1 (fun n d => r_aloadn gx2_122 rfl) ?_)
      have H := H h_1033 S1033 (by rw [e1033]) K1033
      refine pt_d (pt_virt (as := []) (r := [.int v1037, .int v1035, .ref 43]) gx2_123 rfl (show zmt[5]? = some zM5 from rfl) rfl rfl rfl rfl (c_5 S1033) (kqP (fun v1038 h1038 => ?_)))
      show Pt _ _ _ 126 _ [.int v1038, .int v1037, .int v1035, .ref 43] _ _
      refine pt_d (pt_imul gx2_126 h1037 h1038 (fun v1039 h1039 => ?_))
      refine pt_d (pt_1 (fun n d => r_iload gx2_127 rfl) ?_)
      refine pt_d (pt_idiv gx2_129 h1039 h1003 (fun v1040 h1040 => ?_))
      refine pt_d (pt_iasth (N' := 13) gx2_130 S1033 tl_43 h1035 h1040 (fun h_1041 S1041 p1041 q1041 e1041 K1041 => ?_))
      refine pt_d (pt_1 (fun n d => r_aloadn gx2_131 rfl) ?_)
      refine pt_d (pt_getR gx2_132 S1041 tr_41_4 ?_)
      refine pt_d (pt_bipush gx2_135 (fun v1043 h1043 => ?_))
      refine pt_d (pt_1 (fun n d => r_aload gx2_137 rfl) ?_)
      obtain ⟨pr1044, H⟩ := H
      refine pt_d (pt_getK (B := 12) gx2_139 S1041 (by rw [e1041]; exact pr1044) ?_)
      refine pt_d (pt_1 (fun n d => r_iloadn gx2_142 rfl) ?_)
      refine pt_d (pt_ialdD gx2_143 z1 (fun v1045 p1045 h1045 => ?_))
      have H := H p1045
      have h1045 : v1045.toInt = (up (vw h_1033) 43 6 (iDiv (w32 (100 * (mxN (fun j => (vw h_1033) 44 j) 8))) (vw h_1001 (q1001 + 5) a1))) (q1001 + 7) a1 := by rw [h1045, e1041]
      refine pt_d (pt_iconst gx2_144 (fun v1046 h1046 => ?_))
      refine pt_d (pt_icmp_ne gx2_145 h1045 h1046 (fun e1047 => ?_) (fun e1047 => ?_))
      · have H := H.1 e1047
        refine pt_d (pt_1 (fun n d => r_aloadn gx2_152 rfl) ?_)
        refine pt_d (pt_getR gx2_153 S1041 tr_41_1 ?_)
        refine pt_d (pt_1 (fun n d => r_aload gx2_156 rfl) ?_)
        obtain ⟨pr1049, H⟩ := H
        refine pt_d (pt_getK (B := 12) gx2_158 S1041 (by rw [e1041]; exact pr1049) ?_)
        refine pt_d (pt_1 (fun n d => r_iloadn gx2_161 rfl) ?_)
        refine pt_d (pt_ialdD gx2_162 z1 (fun v1050 p1050 h1050 => ?_))
        have H := H p1050
        have h1050 : v1050.toInt = (up (vw h_1033) 43 6 (iDiv (w32 (100 * (mxN (fun j => (vw h_1033) 44 j) 8))) (vw h_1001 (q1001 + 5) a1))) (q1001 + 7) a1 := by rw [h1050, e1041]
        have H := H h_1041 S1041 (by rw [e1041]) K1041
        refine pt_d (pt_virt (as := [.int v1050]) (r := [.int v1043, .ref 43]) gx2_163 rfl (show zmt[31]? = some zM31 from rfl) rfl rfl rfl rfl (c_31 S1041 h1050) (kqP (fun v1051 h1051 => ?_)))
        show Pt _ _ _ 166 _ [.int v1051, .int v1043, .ref 43] _ _
        refine pt_d (pt_iasth (N' := 13) gx2_166 S1041 tl_43 h1043 h1051 (fun h_1052 S1052 p1052 q1052 e1052 K1052 => ?_))
        refine pt_d (pt_1 (fun n d => r_aloadn gx2_167 rfl) ?_)
        refine pt_d (pt_getR gx2_168 S1052 tr_41_4 ?_)
        refine pt_d (pt_bipush gx2_171 (fun v1054 h1054 => ?_))
        refine pt_d (pt_1 (fun n d => r_aload gx2_173 rfl) ?_)
        refine pt_d (pt_1 (fun n d => r_iloadn gx2_175 rfl) ?_)
        have H := H h_1052 S1052 (by rw [e1052]) K1052
        obtain ⟨pr1055, H⟩ := H
        refine pt_d (pt_virt (as := [.int x1]) (r := [.int v1054, .ref 43]) gx2_176 rfl (show zmt[102]? = some zM102 from rfl) rfl rfl rfl rfl (c_102 S1052 z1 pr1055) (kqP (fun v1055 h1055 => ?_)))
        show Pt _ _ _ 179 _ [.int v1055, .int v1054, .ref 43] _ _
        refine pt_d (pt_iasth (N' := 13) gx2_179 S1052 tl_43 h1054 h1055 (fun h_1056 S1056 p1056 q1056 e1056 K1056 => ?_))
        refine pt_d (pt_1 (fun n d => r_aloadn gx2_180 rfl) ?_)
        refine pt_d (pt_getR gx2_181 S1056 tr_41_4 ?_)
        refine pt_d (pt_bipush gx2_184 (fun v1058 h1058 => ?_))
        refine pt_d (pt_1 (fun n d => r_aloadn gx2_186 rfl) ?_)
        refine pt_d (pt_1 (fun n d => r_iloadn gx2_187 rfl) ?_)
        refine pt_d (pt_1 (fun n d => r_iloadn gx2_188 rfl) ?_)
        refine pt_d (pt_1 (fun n d => r_iloadn gx2_189 rfl) ?_)
        have H := H h_1056 S1056 (by rw [e1056]) K1056
        obtain ⟨pr1059, H⟩ := H
        refine pt_d (pt_virt (as := [.int x1, .int x2, .int x3]) (r := [.int v1058, .ref 43]) gx2_190 rfl (show zmt[6]? = some zM6 from rfl) rfl rfl rfl rfl (c_6 S1056 z1 z2 z3 pr1059) (kqP (fun v1059 h1059 => ?_)))
        show Pt _ _ _ 193 _ [.int v1059, .int v1058, .ref 43] _ _
        refine pt_d (pt_iasth (N' := 13) gx2_193 S1056 tl_43 h1058 h1059 (fun h_1060 S1060 p1060 q1060 e1060 K1060 => ?_))
        refine pt_d (pt_1 (fun n d => r_aloadn gx2_194 rfl) ?_)
        refine pt_d (pt_getR gx2_195 S1060 tr_41_4 ?_)
        refine pt_d (pt_bipush gx2_198 (fun v1062 h1062 => ?_))
        refine pt_d (pt_iconst gx2_200 (fun v1063 h1063 => ?_))
        refine pt_d (pt_iasth (N' := 13) gx2_201 S1060 tl_43 h1062 h1063 (fun h_1064 S1064 p1064 q1064 e1064 K1064 => ?_))
        refine pt_d (pt_1 (fun n d => r_aloadn gx2_202 rfl) ?_)
        refine pt_d (pt_getR gx2_203 S1064 tr_41_4 ?_)
        refine pt_d (pt_bipush gx2_206 (fun v1066 h1066 => ?_))
        refine pt_d (pt_1 (fun n d => r_aloadn gx2_208 rfl) ?_)
        refine pt_d (pt_getR gx2_209 S1064 tr_41_1 ?_)
        refine pt_d (pt_1 (fun n d => r_iloadn gx2_212 rfl) ?_)
        refine pt_d (pt_1 (fun n d => r_iloadn gx2_213 rfl) ?_)
        refine pt_d (pt_1 (fun n d => r_iloadn gx2_214 rfl) ?_)
        have H := H h_1064 S1064 (by rw [e1064, e1060]) (hk_t K1060 K1064)
        refine pt_d (pt_virt (as := [.int x1, .int x2, .int x3]) (r := [.int v1066, .ref 43]) gx2_215 rfl (show zmt[38]? = some zM38 from rfl) rfl rfl rfl rfl (c_38 S1064 z1 z2 z3) (kqP (fun v1068 h1068 => ?_)))
        show Pt _ _ _ 218 _ [.int v1068, .int v1066, .ref 43] _ _
        refine pt_d (pt_ifB_eq gx2_218 h1068 (fun e1069 => ?_) (fun e1069 => ?_))
        · have H := H.1 e1069
          refine pt_d (pt_iconst gx2_225 (fun v1070 h1070 => ?_))
          refine pt_d (pt_iasth (N' := 13) gx2_226 S1064 tl_43 h1066 h1070 (fun h_1071 S1071 p1071 q1071 e1071 K1071 => ?_))
          refine pt_d (pt_1 (fun n d => r_aloadn gx2_227 rfl) ?_)
          refine pt_d (pt_getR gx2_228 S1071 tr_41_4 ?_)
          refine pt_d (pt_bipush gx2_231 (fun v1073 h1073 => ?_))
          refine pt_d (pt_iconst gx2_233 (fun v1074 h1074 => ?_))
          refine pt_d (pt_iasth (N' := 13) gx2_234 S1071 tl_43 h1073 h1074 (fun h_1075 S1075 p1075 q1075 e1075 K1075 => ?_))
          refine pt_d (pt_iconst gx2_235 (fun v1076 h1076 => ?_))
          refine pt_d (pt_1 (fun n d => r_istore (L' := [some (.ref 41), some (.int x1), some (.int x2), some (.int x3), some (.ref q1001), some (.int v1003), some (.int v1004), some (.int v1076)]) gx2_236 rfl rfl) ?_)
          have H := H h_1075 S1075 (by rw [e1075, e1071]) (hk_t K1071 K1075)
          exact H v1003 v1004 v1076 h1003 h1004 h1076
        · have H := H.2 e1069
          refine pt_d (pt_iconst gx2_221 (fun v1077 h1077 => ?_))
          refine pt_d (pt_1 (fun n d => r_goto gx2_222) ?_)
          refine pt_d (pt_iasth (N' := 13) gx2_226 S1064 tl_43 h1066 h1077 (fun h_1078 S1078 p1078 q1078 e1078 K1078 => ?_))
          refine pt_d (pt_1 (fun n d => r_aloadn gx2_227 rfl) ?_)
          refine pt_d (pt_getR gx2_228 S1078 tr_41_4 ?_)
          refine pt_d (pt_bipush gx2_231 (fun v1080 h1080 => ?_))
          refine pt_d (pt_iconst gx2_233 (fun v1081 h1081 => ?_))
          refine pt_d (pt_iasth (N' := 13) gx2_234 S1078 tl_43 h1080 h1081 (fun h_1082 S1082 p1082 q1082 e1082 K1082 => ?_))
          refine pt_d (pt_iconst gx2_235 (fun v1083 h1083 => ?_))
          refine pt_d (pt_1 (fun n d => r_istore (L' := [some (.ref 41), some (.int x1), some (.int x2), some (.int x3), some (.ref q1001), some (.int v1003), some (.int v1004), some (.int v1083)]) gx2_236 rfl rfl) ?_)
          have H := H h_1082 S1082 (by rw [e1082, e1078]) (hk_t K1078 K1082)
          exact H v1003 v1004 v1083 h1003 h1004 h1083
      · have H := H.2 e1047
        refine pt_d (pt_iconst gx2_148 (fun v1084 h1084 => ?_))
        refine pt_d (pt_1 (fun n d => r_goto gx2_149) ?_)
        refine pt_d (pt_iasth (N' := 13) gx2_166 S1041 tl_43 h1043 h1084 (fun h_1085 S1085 p1085 q1085 e1085 K1085 => ?_))
        refine pt_d (pt_1 (fun n d => r_aloadn gx2_167 rfl) ?_)
        refine pt_d (pt_getR gx2_168 S1085 tr_41_4 ?_)
        refine pt_d (pt_bipush gx2_171 (fun v1087 h1087 => ?_))
        refine pt_d (pt_1 (fun n d => r_aload gx2_173 rfl) ?_)
        refine pt_d (pt_1 (fun n d => r_iloadn gx2_175 rfl) ?_)
        have H := H h_1085 S1085 (by rw [e1085, e1041]) (hk_t K1041 K1085)
        obtain ⟨pr1088, H⟩ := H
        refine pt_d (pt_virt (as := [.int x1]) (r := [.int v1087, .ref 43]) gx2_176 rfl (show zmt[102]? = some zM102 from rfl) rfl rfl rfl rfl (c_102 S1085 z1 pr1088) (kqP (fun v1088 h1088 => ?_)))
        show Pt _ _ _ 179 _ [.int v1088, .int v1087, .ref 43] _ _
        refine pt_d (pt_iasth (N' := 13) gx2_179 S1085 tl_43 h1087 h1088 (fun h_1089 S1089 p1089 q1089 e1089 K1089 => ?_))
        refine pt_d (pt_1 (fun n d => r_aloadn gx2_180 rfl) ?_)
        refine pt_d (pt_getR gx2_181 S1089 tr_41_4 ?_)
        refine pt_d (pt_bipush gx2_184 (fun v1091 h1091 => ?_))
        refine pt_d (pt_1 (fun n d => r_aloadn gx2_186 rfl) ?_)
        refine pt_d (pt_1 (fun n d => r_iloadn gx2_187 rfl) ?_)
        refine pt_d (pt_1 (fun n d => r_iloadn gx2_188 rfl) ?_)
        refine pt_d (pt_1 (fun n d => r_iloadn gx2_189 rfl) ?_)
        have H := H h_1089 S1089 (by rw [e1089]) K1089
        obtain ⟨pr1092, H⟩ := H
        refine pt_d (pt_virt (as := [.int x1, .int x2, .int x3]) (r := [.int v1091, .ref 43]) gx2_190 rfl (show zmt[6]? = some zM6 from rfl) rfl rfl rfl rfl (c_6 S1089 z1 z2 z3 pr1092) (kqP (fun v1092 h1092 => ?_)))
        show Pt _ _ _ 193 _ [.int v1092, .int v1091, .ref 43] _ _
        refine pt_d (pt_iasth (N' := 13) gx2_193 S1089 tl_43 h1091 h1092 (fun h_1093 S1093 p1093 q1093 e1093 K1093 => ?_))
        refine pt_d (pt_1 (fun n d => r_aloadn gx2_194 rfl) ?_)
        refine pt_d (pt_getR gx2_195 S1093 tr_41_4 ?_)
        refine pt_d (pt_bipush gx2_198 (fun v1095 h1095 => ?_))
        refine pt_d (pt_iconst gx2_200 (fun v1096 h1096 => ?_))
        refine pt_d (pt_iasth (N' := 13) gx2_201 S1093 tl_43 h1095 h1096 (fun h_1097 S1097 p1097 q1097 e1097 K1097 => ?_))
        refine pt_d (pt_1 (fun n d => r_aloadn gx2_202 rfl) ?_)
        refine pt_d (pt_getR gx2_203 S1097 tr_41_4 ?_)
        refine pt_d (pt_bipush gx2_206 (fun v1099 h1099 => ?_))
        refine pt_d (pt_1 (fun n d => r_aloadn gx2_208 rfl) ?_)
        refine pt_d (pt_getR gx2_209 S1097 tr_41_1 ?_)
        refine pt_d (pt_1 (fun n d => r_iloadn gx2_212 rfl) ?_)
        refine pt_d (pt_1 (fun n d => r_iloadn gx2_213 rfl) ?_)
        refine pt_d (pt_1 (fun n d => r_iloadn gx2_214 rfl) ?_)
        have H := H h_1097 S1097 (by rw [e1097, e1093]) (hk_t K1093 K1097)
        refine pt_d (pt_virt (as := [.int x1, .int x2, .int x3]) (r := [.int v1099, .ref 43]) gx2_215 rfl (show zmt[38]? = some zM38 from rfl) rfl rfl rfl rfl (c_38 S1097 z1 z2 z3) (kqP (fun v1101 h1101 => ?_)))
        show Pt _ _ _ 218 _ [.int v1101, .int v1099, .ref 43] _ _
        refine pt_d (pt_ifB_eq gx2_218 h1101 (fun e1102 => ?_) (fun e1102 => ?_))
        · have H := H.1 e1102
          refine pt_d (pt_iconst gx2_225 (fun v1103 h1103 => ?_))
          refine pt_d (pt_iasth (N' := 13) gx2_226 S1097 tl_43 h1099 h1103 (fun h_1104 S1104 p1104 q1104 e1104 K1104 => ?_))
          refine pt_d (pt_1 (fun n d => r_aloadn gx2_227 rfl) ?_)
          refine pt_d (pt_getR gx2_228 S1104 tr_41_4 ?_)
          refine pt_d (pt_bipush gx2_231 (fun v1106 h1106 => ?_))
          refine pt_d (pt_iconst gx2_233 (fun v1107 h1107 => ?_))
          refine pt_d (pt_iasth (N' := 13) gx2_234 S1104 tl_43 h1106 h1107 (fun h_1108 S1108 p1108 q1108 e1108 K1108 => ?_))
          refine pt_d (pt_iconst gx2_235 (fun v1109 h1109 => ?_))
          refine pt_d (pt_1 (fun n d => r_istore (L' := [some (.ref 41), some (.int x1), some (.int x2), some (.int x3), some (.ref q1001), some (.int v1003), some (.int v1004), some (.int v1109)]) gx2_236 rfl rfl) ?_)
          have H := H h_1108 S1108 (by rw [e1108, e1104]) (hk_t K1104 K1108)
          exact H v1003 v1004 v1109 h1003 h1004 h1109
        · have H := H.2 e1102
          refine pt_d (pt_iconst gx2_221 (fun v1110 h1110 => ?_))
          refine pt_d (pt_1 (fun n d => r_goto gx2_222) ?_)
          refine pt_d (pt_iasth (N' := 13) gx2_226 S1097 tl_43 h1099 h1110 (fun h_1111 S1111 p1111 q1111 e1111 K1111 => ?_))
          refine pt_d (pt_1 (fun n d => r_aloadn gx2_227 rfl) ?_)
          refine pt_d (pt_getR gx2_228 S1111 tr_41_4 ?_)
          refine pt_d (pt_bipush gx2_231 (fun v1113 h1113 => ?_))
          refine pt_d (pt_iconst gx2_233 (fun v1114 h1114 => ?_))
          refine pt_d (pt_iasth (N' := 13) gx2_234 S1111 tl_43 h1113 h1114 (fun h_1115 S1115 p1115 q1115 e1115 K1115 => ?_))
          refine pt_d (pt_iconst gx2_235 (fun v1116 h1116 => ?_))
          refine pt_d (pt_1 (fun n d => r_istore (L' := [some (.ref 41), some (.int x1), some (.int x2), some (.int x3), some (.ref q1001), some (.int v1003), some (.int v1004), some (.int v1116)]) gx2_236 rfl rfl) ?_)
          have H := H h_1115 S1115 (by rw [e1115, e1111]) (hk_t K1111 K1115)
          exact H v1003 v1004 v1116 h1003 h1004 h1116
    · have H := H.2 e1036
      refine pt_d (pt_iconst gx2_116 (fun v1117 h1117 => ?_))
      refine pt_d (pt_1 (fun n d => r_goto gx2_117) ?_)
      refine pt_d (pt_iasth (N' := 13) gx2_130 S1033 tl_43 h1035 h1117 (fun h_1118 S1118 p1118 q1118 e1118 K1118 => ?_))
      refine pt_d (pt_1 (fun n d => r_aloadn gx2_131 rfl) ?_)
      refine pt_d (pt_getR gx2_132 S1118 tr_41_4 ?_)
      refine pt_d (pt_bipush gx2_135 (fun v1120 h1120 => ?_))
      refine pt_d (pt_1 (fun n d => r_aload gx2_137 rfl) ?_)
      obtain ⟨pr1121, H⟩ := H
      refine pt_d (pt_getK (B := 12) gx2_139 S1118 (by rw [e1118, e1033]; exact pr1121) ?_)
      refine pt_d (pt_1 (fun n d => r_iloadn gx2_142 rfl) ?_)
      refine pt_d (pt_ialdD gx2_143 z1 (fun v1122 p1122 h1122 => ?_))
      have H := H p1122
      have h1122 : v1122.toInt = (up (up (vw h_1029) 43 5 (nQ (fun j => 0 < (vw h_1029) 44 j) 8)) 43 6 0) (q1001 + 7) a1 := by rw [h1122, e1118, e1033]
      refine pt_d (pt_iconst gx2_144 (fun v1123 h1123 => ?_))
      refine pt_d (pt_icmp_ne gx2_145 h1122 h1123 (fun e1124 => ?_) (fun e1124 => ?_))
      · have H := H.1 e1124
        refine pt_d (pt_1 (fun n d => r_aloadn gx2_152 rfl) ?_)
        refine pt_d (pt_getR gx2_153 S1118 tr_41_1 ?_)
        refine pt_d (pt_1 (fun n d => r_aload gx2_156 rfl) ?_)
        obtain ⟨pr1126, H⟩ := H
        refine pt_d (pt_getK (B := 12) gx2_158 S1118 (by rw [e1118, e1033]; exact pr1126) ?_)
        refine pt_d (pt_1 (fun n d => r_iloadn gx2_161 rfl) ?_)
        refine pt_d (pt_ialdD gx2_162 z1 (fun v1127 p1127 h1127 => ?_))
        have H := H p1127
        have h1127 : v1127.toInt = (up (up (vw h_1029) 43 5 (nQ (fun j => 0 < (vw h_1029) 44 j) 8)) 43 6 0) (q1001 + 7) a1 := by rw [h1127, e1118, e1033]
        have H := H h_1118 S1118 (by rw [e1118, e1033]) (hk_t K1033 K1118)
        refine pt_d (pt_virt (as := [.int v1127]) (r := [.int v1120, .ref 43]) gx2_163 rfl (show zmt[31]? = some zM31 from rfl) rfl rfl rfl rfl (c_31 S1118 h1127) (kqP (fun v1128 h1128 => ?_)))
        show Pt _ _ _ 166 _ [.int v1128, .int v1120, .ref 43] _ _
        refine pt_d (pt_iasth (N' := 13) gx2_166 S1118 tl_43 h1120 h1128 (fun h_1129 S1129 p1129 q1129 e1129 K1129 => ?_))
        refine pt_d (pt_1 (fun n d => r_aloadn gx2_167 rfl) ?_)
        refine pt_d (pt_getR gx2_168 S1129 tr_41_4 ?_)
        refine pt_d (pt_bipush gx2_171 (fun v1131 h1131 => ?_))
        refine pt_d (pt_1 (fun n d => r_aload gx2_173 rfl) ?_)
        refine pt_d (pt_1 (fun n d => r_iloadn gx2_175 rfl) ?_)
        have H := H h_1129 S1129 (by rw [e1129]) K1129
        obtain ⟨pr1132, H⟩ := H
        refine pt_d (pt_virt (as := [.int x1]) (r := [.int v1131, .ref 43]) gx2_176 rfl (show zmt[102]? = some zM102 from rfl) rfl rfl rfl rfl (c_102 S1129 z1 pr1132) (kqP (fun v1132 h1132 => ?_)))
        show Pt _ _ _ 179 _ [.int v1132, .int v1131, .ref 43] _ _
        refine pt_d (pt_iasth (N' := 13) gx2_179 S1129 tl_43 h1131 h1132 (fun h_1133 S1133 p1133 q1133 e1133 K1133 => ?_))
        refine pt_d (pt_1 (fun n d => r_aloadn gx2_180 rfl) ?_)
        refine pt_d (pt_getR gx2_181 S1133 tr_41_4 ?_)
        refine pt_d (pt_bipush gx2_184 (fun v1135 h1135 => ?_))
        refine pt_d (pt_1 (fun n d => r_aloadn gx2_186 rfl) ?_)
        refine pt_d (pt_1 (fun n d => r_iloadn gx2_187 rfl) ?_)
        refine pt_d (pt_1 (fun n d => r_iloadn gx2_188 rfl) ?_)
        refine pt_d (pt_1 (fun n d => r_iloadn gx2_189 rfl) ?_)
        have H := H h_1133 S1133 (by rw [e1133]) K1133
        obtain ⟨pr1136, H⟩ := H
        refine pt_d (pt_virt (as := [.int x1, .int x2, .int x3]) (r := [.int v1135, .ref 43]) gx2_190 rfl (show zmt[6]? = some zM6 from rfl) rfl rfl rfl rfl (c_6 S1133 z1 z2 z3 pr1136) (kqP (fun v1136 h1136 => ?_)))
        show Pt _ _ _ 193 _ [.int v1136, .int v1135, .ref 43] _ _
        refine pt_d (pt_iasth (N' := 13) gx2_193 S1133 tl_43 h1135 h1136 (fun h_1137 S1137 p1137 q1137 e1137 K1137 => ?_))
        refine pt_d (pt_1 (fun n d => r_aloadn gx2_194 rfl) ?_)
        refine pt_d (pt_getR gx2_195 S1137 tr_41_4 ?_)
        refine pt_d (pt_bipush gx2_198 (fun v1139 h1139 => ?_))
        refine pt_d (pt_iconst gx2_200 (fun v1140 h1140 => ?_))
        refine pt_d (pt_iasth (N' := 13) gx2_201 S1137 tl_43 h1139 h1140 (fun h_1141 S1141 p1141 q1141 e1141 K1141 => ?_))
        refine pt_d (pt_1 (fun n d => r_aloadn gx2_202 rfl) ?_)
        refine pt_d (pt_getR gx2_203 S1141 tr_41_4 ?_)
        refine pt_d (pt_bipush gx2_206 (fun v1143 h1143 => ?_))
        refine pt_d (pt_1 (fun n d => r_aloadn gx2_208 rfl) ?_)
        refine pt_d (pt_getR gx2_209 S1141 tr_41_1 ?_)
        refine pt_d (pt_1 (fun n d => r_iloadn gx2_212 rfl) ?_)
        refine pt_d (pt_1 (fun n d => r_iloadn gx2_213 rfl) ?_)
        refine pt_d (pt_1 (fun n d => r_iloadn gx2_214 rfl) ?_)
        have H := H h_1141 S1141 (by rw [e1141, e1137]) (hk_t K1137 K1141)
        refine pt_d (pt_virt (as := [.int x1, .int x2, .int x3]) (r := [.int v1143, .ref 43]) gx2_215 rfl (show zmt[38]? = some zM38 from rfl) rfl rfl rfl rfl (c_38 S1141 z1 z2 z3) (kqP (fun v1145 h1145 => ?_)))
        show Pt _ _ _ 218 _ [.int v1145, .int v1143, .ref 43] _ _
        refine pt_d (pt_ifB_eq gx2_218 h1145 (fun e1146 => ?_) (fun e1146 => ?_))
        · have H := H.1 e1146
          refine pt_d (pt_iconst gx2_225 (fun v1147 h1147 => ?_))
          refine pt_d (pt_iasth (N' := 13) gx2_226 S1141 tl_43 h1143 h1147 (fun h_1148 S1148 p1148 q1148 e1148 K1148 => ?_))
          refine pt_d (pt_1 (fun n d => r_aloadn gx2_227 rfl) ?_)
          refine pt_d (pt_getR gx2_228 S1148 tr_41_4 ?_)
          refine pt_d (pt_bipush gx2_231 (fun v1150 h1150 => ?_))
          refine pt_d (pt_iconst gx2_233 (fun v1151 h1151 => ?_))
          refine pt_d (pt_iasth (N' := 13) gx2_234 S1148 tl_43 h1150 h1151 (fun h_1152 S1152 p1152 q1152 e1152 K1152 => ?_))
          refine pt_d (pt_iconst gx2_235 (fun v1153 h1153 => ?_))
          refine pt_d (pt_1 (fun n d => r_istore (L' := [some (.ref 41), some (.int x1), some (.int x2), some (.int x3), some (.ref q1001), some (.int v1003), some (.int v1004), some (.int v1153)]) gx2_236 rfl rfl) ?_)
          have H := H h_1152 S1152 (by rw [e1152, e1148]) (hk_t K1148 K1152)
          exact H v1003 v1004 v1153 h1003 h1004 h1153
        · have H := H.2 e1146
          refine pt_d (pt_iconst gx2_221 (fun v1154 h1154 => ?_))
          refine pt_d (pt_1 (fun n d => r_goto gx2_222) ?_)
          refine pt_d (pt_iasth (N' := 13) gx2_226 S1141 tl_43 h1143 h1154 (fun h_1155 S1155 p1155 q1155 e1155 K1155 => ?_))
          refine pt_d (pt_1 (fun n d => r_aloadn gx2_227 rfl) ?_)
          refine pt_d (pt_getR gx2_228 S1155 tr_41_4 ?_)
          refine pt_d (pt_bipush gx2_231 (fun v1157 h1157 => ?_))
          refine pt_d (pt_iconst gx2_233 (fun v1158 h1158 => ?_))
          refine pt_d (pt_iasth (N' := 13) gx2_234 S1155 tl_43 h1157 h1158 (fun h_1159 S1159 p1159 q1159 e1159 K1159 => ?_))
          refine pt_d (pt_iconst gx2_235 (fun v1160 h1160 => ?_))
          refine pt_d (pt_1 (fun n d => r_istore (L' := [some (.ref 41), some (.int x1), some (.int x2), some (.int x3), some (.ref q1001), some (.int v1003), some (.int v1004), some (.int v1160)]) gx2_236 rfl rfl) ?_)
          have H := H h_1159 S1159 (by rw [e1159, e1155]) (hk_t K1155 K1159)
          exact H v1003 v1004 v1160 h1003 h1004 h1160
      · have H := H.2 e1124
        refine pt_d (pt_iconst gx2_148 (fun v1161 h1161 => ?_))
        refine pt_d (pt_1 (fun n d => r_goto gx2_149) ?_)
        refine pt_d (pt_iasth (N' := 13) gx2_166 S1118 tl_43 h1120 h1161 (fun h_1162 S1162 p1162 q1162 e1162 K1162 => ?_))
        refine pt_d (pt_1 (fun n d => r_aloadn gx2_167 rfl) ?_)
        refine pt_d (pt_getR gx2_168 S1162 tr_41_4 ?_)
        refine pt_d (pt_bipush gx2_171 (fun v1164 h1164 => ?_))
        refine pt_d (pt_1 (fun n d => r_aload gx2_173 rfl) ?_)
        refine pt_d (pt_1 (fun n d => r_iloadn gx2_175 rfl) ?_)
        have H := H h_1162 S1162 (by rw [e1162, e1118, e1033]) (hk_t (hk_t K1033 K1118) K1162)
        obtain ⟨pr1165, H⟩ := H
        refine pt_d (pt_virt (as := [.int x1]) (r := [.int v1164, .ref 43]) gx2_176 rfl (show zmt[102]? = some zM102 from rfl) rfl rfl rfl rfl (c_102 S1162 z1 pr1165) (kqP (fun v1165 h1165 => ?_)))
        show Pt _ _ _ 179 _ [.int v1165, .int v1164, .ref 43] _ _
        refine pt_d (pt_iasth (N' := 13) gx2_179 S1162 tl_43 h1164 h1165 (fun h_1166 S1166 p1166 q1166 e1166 K1166 => ?_))
        refine pt_d (pt_1 (fun n d => r_aloadn gx2_180 rfl) ?_)
        refine pt_d (pt_getR gx2_181 S1166 tr_41_4 ?_)
        refine pt_d (pt_bipush gx2_184 (fun v1168 h1168 => ?_))
        refine pt_d (pt_1 (fun n d => r_aloadn gx2_186 rfl) ?_)
        refine pt_d (pt_1 (fun n d => r_iloadn gx2_187 rfl) ?_)
        refine pt_d (pt_1 (fun n d => r_iloadn gx2_188 rfl) ?_)
        refine pt_d (pt_1 (fun n d => r_iloadn gx2_189 rfl) ?_)
        have H := H h_1166 S1166 (by rw [e1166]) K1166
        obtain ⟨pr1169, H⟩ := H
        refine pt_d (pt_virt (as := [.int x1, .int x2, .int x3]) (r := [.int v1168, .ref 43]) gx2_190 rfl (show zmt[6]? = some zM6 from rfl) rfl rfl rfl rfl (c_6 S1166 z1 z2 z3 pr1169) (kqP (fun v1169 h1169 => ?_)))
        show Pt _ _ _ 193 _ [.int v1169, .int v1168, .ref 43] _ _
        refine pt_d (pt_iasth (N' := 13) gx2_193 S1166 tl_43 h1168 h1169 (fun h_1170 S1170 p1170 q1170 e1170 K1170 => ?_))
        refine pt_d (pt_1 (fun n d => r_aloadn gx2_194 rfl) ?_)
        refine pt_d (pt_getR gx2_195 S1170 tr_41_4 ?_)
        refine pt_d (pt_bipush gx2_198 (fun v1172 h1172 => ?_))
        refine pt_d (pt_iconst gx2_200 (fun v1173 h1173 => ?_))
        refine pt_d (pt_iasth (N' := 13) gx2_201 S1170 tl_43 h1172 h1173 (fun h_1174 S1174 p1174 q1174 e1174 K1174 => ?_))
        refine pt_d (pt_1 (fun n d => r_aloadn gx2_202 rfl) ?_)
        refine pt_d (pt_getR gx2_203 S1174 tr_41_4 ?_)
        refine pt_d (pt_bipush gx2_206 (fun v1176 h1176 => ?_))
        refine pt_d (pt_1 (fun n d => r_aloadn gx2_208 rfl) ?_)
        refine pt_d (pt_getR gx2_209 S1174 tr_41_1 ?_)
        refine pt_d (pt_1 (fun n d => r_iloadn gx2_212 rfl) ?_)
        refine pt_d (pt_1 (fun n d => r_iloadn gx2_213 rfl) ?_)
        refine pt_d (pt_1 (fun n d => r_iloadn gx2_214 rfl) ?_)
        have H := H h_1174 S1174 (by rw [e1174, e1170]) (hk_t K1170 K1174)
        refine pt_d (pt_virt (as := [.int x1, .int x2, .int x3]) (r := [.int v1176, .ref 43]) gx2_215 rfl (show zmt[38]? = some zM38 from rfl) rfl rfl rfl rfl (c_38 S1174 z1 z2 z3) (kqP (fun v1178 h1178 => ?_)))
        show Pt _ _ _ 218 _ [.int v1178, .int v1176, .ref 43] _ _
        refine pt_d (pt_ifB_eq gx2_218 h1178 (fun e1179 => ?_) (fun e1179 => ?_))
        · have H := H.1 e1179
          refine pt_d (pt_iconst gx2_225 (fun v1180 h1180 => ?_))
          refine pt_d (pt_iasth (N' := 13) gx2_226 S1174 tl_43 h1176 h1180 (fun h_1181 S1181 p1181 q1181 e1181 K1181 => ?_))
          refine pt_d (pt_1 (fun n d => r_aloadn gx2_227 rfl) ?_)
          refine pt_d (pt_getR gx2_228 S1181 tr_41_4 ?_)
          refine pt_d (pt_bipush gx2_231 (fun v1183 h1183 => ?_))
          refine pt_d (pt_iconst gx2_233 (fun v1184 h1184 => ?_))
          refine pt_d (pt_iasth (N' := 13) gx2_234 S1181 tl_43 h1183 h1184 (fun h_1185 S1185 p1185 q1185 e1185 K1185 => ?_))
          refine pt_d (pt_iconst gx2_235 (fun v1186 h1186 => ?_))
          refine pt_d (pt_1 (fun n d => r_istore (L' := [some (.ref 41), some (.int x1), some (.int x2), some (.int x3), some (.ref q1001), some (.int v1003), some (.int v1004), some (.int v1186)]) gx2_236 rfl rfl) ?_)
          have H := H h_1185 S1185 (by rw [e1185, e1181]) (hk_t K1181 K1185)
          exact H v1003 v1004 v1186 h1003 h1004 h1186
        · have H := H.2 e1179
          refine pt_d (pt_iconst gx2_221 (fun v1187 h1187 => ?_))
          refine pt_d (pt_1 (fun n d => r_goto gx2_222) ?_)
          refine pt_d (pt_iasth (N' := 13) gx2_226 S1174 tl_43 h1176 h1187 (fun h_1188 S1188 p1188 q1188 e1188 K1188 => ?_))
          refine pt_d (pt_1 (fun n d => r_aloadn gx2_227 rfl) ?_)
          refine pt_d (pt_getR gx2_228 S1188 tr_41_4 ?_)
          refine pt_d (pt_bipush gx2_231 (fun v1190 h1190 => ?_))
          refine pt_d (pt_iconst gx2_233 (fun v1191 h1191 => ?_))
          refine pt_d (pt_iasth (N' := 13) gx2_234 S1188 tl_43 h1190 h1191 (fun h_1192 S1192 p1192 q1192 e1192 K1192 => ?_))
          refine pt_d (pt_iconst gx2_235 (fun v1193 h1193 => ?_))
          refine pt_d (pt_1 (fun n d => r_istore (L' := [some (.ref 41), some (.int x1), some (.int x2), some (.int x3), some (.ref q1001), some (.int v1003), some (.int v1004), some (.int v1193)]) gx2_236 rfl rfl) ?_)
          have H := H h_1192 S1192 (by rw [e1192, e1188]) (hk_t K1188 K1192)
          exact H v1003 v1004 v1193 h1003 h1004 h1193
  · have H := H.2 e1025
    refine pt_d (pt_iconst gx2_82 (fun v1194 h1194 => ?_))
    refine pt_d (pt_1 (fun n d => r_goto gx2_83) ?_)
    refine pt_d (pt_iasth (N' := 13) gx2_94 S1022 tl_43 h1024 h1194 (fun h_1195 S1195 p1195 q1195 e1195 K1195 => ?_))
    refine pt_d (pt_1 (fun n d => r_aloadn gx2_95 rfl) ?_)
    refine pt_d (pt_getR gx2_96 S1195 tr_41_4 ?_)
    refine pt_d (pt_iconst gx2_99 (fun v1197 h1197 => ?_))
    refine pt_d (pt_1 (fun n d => r_aloadn gx2_100 rfl) ?_)
    have H := H h_1195 S1195 (by rw [e1195, e1022, e1016, e1013, e1007]) (hk_t (hk_t (hk_t (hk_t K1007 K1013) K1016) K1022) K1195)
    refine pt_d (pt_virt (as := []) (r := [.int v1197, .ref 43]) gx2_101 rfl (show zmt[4]? = some zM4 from rfl) rfl rfl rfl rfl (c_4 S1195) (kqP (fun v1198 h1198 => ?_)))
    show Pt _ _ _ 104 _ [.int v1198, .int v1197, .ref 43] _ _
    refine pt_d (pt_iasth (N' := 13) gx2_104 S1195 tl_43 h1197 h1198 (fun h_1199 S1199 p1199 q1199 e1199 K1199 => ?_))
    refine pt_d (pt_1 (fun n d => r_aloadn gx2_105 rfl) ?_)
    refine pt_d (pt_getR gx2_106 S1199 tr_41_4 ?_)
    refine pt_d (pt_bipush gx2_109 (fun v1201 h1201 => ?_))
    refine pt_d (pt_1 (fun n d => r_iload gx2_111 rfl) ?_)
    refine pt_d (pt_if_ne gx2_113 h1003 (fun e1202 => ?_) (fun e1202 => ?_))
    · have H := H.1 e1202
      refine pt_d (pt_bipush gx2_120 (fun v1203 h1203 => ?_))
      refine pt_d (pt_1 (fun n d => r_aloadn gx2_122 rfl) ?_)
      have H := H h_1199 S1199 (by rw [e1199]) K1199
      refine pt_d (pt_virt (as := []) (r := [.int v1203, .int v1201, .ref 43]) gx2_123 rfl (show zmt[5]? = some zM5 from rfl) rfl rfl rfl rfl (c_5 S1199) (kqP (fun v1204 h1204 => ?_)))
      show Pt _ _ _ 126 _ [.int v1204, .int v1203, .int v1201, .ref 43] _ _
      refine pt_d (pt_imul gx2_126 h1203 h1204 (fun v1205 h1205 => ?_))
      refine pt_d (pt_1 (fun n d => r_iload gx2_127 rfl) ?_)
      refine pt_d (pt_idiv gx2_129 h1205 h1003 (fun v1206 h1206 => ?_))
      refine pt_d (pt_iasth (N' := 13) gx2_130 S1199 tl_43 h1201 h1206 (fun h_1207 S1207 p1207 q1207 e1207 K1207 => ?_))
      refine pt_d (pt_1 (fun n d => r_aloadn gx2_131 rfl) ?_)
      refine pt_d (pt_getR gx2_132 S1207 tr_41_4 ?_)
      refine pt_d (pt_bipush gx2_135 (fun v1209 h1209 => ?_))
      refine pt_d (pt_1 (fun n d => r_aload gx2_137 rfl) ?_)
      obtain ⟨pr1210, H⟩ := H
      refine pt_d (pt_getK (B := 12) gx2_139 S1207 (by rw [e1207]; exact pr1210) ?_)
      refine pt_d (pt_1 (fun n d => r_iloadn gx2_142 rfl) ?_)
      refine pt_d (pt_ialdD gx2_143 z1 (fun v1211 p1211 h1211 => ?_))
      have H := H p1211
      have h1211 : v1211.toInt = (up (vw h_1199) 43 6 (iDiv (w32 (100 * (mxN (fun j => (vw h_1199) 44 j) 8))) (vw h_1001 (q1001 + 5) a1))) (q1001 + 7) a1 := by rw [h1211, e1207]
      refine pt_d (pt_iconst gx2_144 (fun v1212 h1212 => ?_))
      refine pt_d (pt_icmp_ne gx2_145 h1211 h1212 (fun e1213 => ?_) (fun e1213 => ?_))
      · have H := H.1 e1213
        refine pt_d (pt_1 (fun n d => r_aloadn gx2_152 rfl) ?_)
        refine pt_d (pt_getR gx2_153 S1207 tr_41_1 ?_)
        refine pt_d (pt_1 (fun n d => r_aload gx2_156 rfl) ?_)
        obtain ⟨pr1215, H⟩ := H
        refine pt_d (pt_getK (B := 12) gx2_158 S1207 (by rw [e1207]; exact pr1215) ?_)
        refine pt_d (pt_1 (fun n d => r_iloadn gx2_161 rfl) ?_)
        refine pt_d (pt_ialdD gx2_162 z1 (fun v1216 p1216 h1216 => ?_))
        have H := H p1216
        have h1216 : v1216.toInt = (up (vw h_1199) 43 6 (iDiv (w32 (100 * (mxN (fun j => (vw h_1199) 44 j) 8))) (vw h_1001 (q1001 + 5) a1))) (q1001 + 7) a1 := by rw [h1216, e1207]
        have H := H h_1207 S1207 (by rw [e1207]) K1207
        refine pt_d (pt_virt (as := [.int v1216]) (r := [.int v1209, .ref 43]) gx2_163 rfl (show zmt[31]? = some zM31 from rfl) rfl rfl rfl rfl (c_31 S1207 h1216) (kqP (fun v1217 h1217 => ?_)))
        show Pt _ _ _ 166 _ [.int v1217, .int v1209, .ref 43] _ _
        refine pt_d (pt_iasth (N' := 13) gx2_166 S1207 tl_43 h1209 h1217 (fun h_1218 S1218 p1218 q1218 e1218 K1218 => ?_))
        refine pt_d (pt_1 (fun n d => r_aloadn gx2_167 rfl) ?_)
        refine pt_d (pt_getR gx2_168 S1218 tr_41_4 ?_)
        refine pt_d (pt_bipush gx2_171 (fun v1220 h1220 => ?_))
        refine pt_d (pt_1 (fun n d => r_aload gx2_173 rfl) ?_)
        refine pt_d (pt_1 (fun n d => r_iloadn gx2_175 rfl) ?_)
        have H := H h_1218 S1218 (by rw [e1218]) K1218
        obtain ⟨pr1221, H⟩ := H
        refine pt_d (pt_virt (as := [.int x1]) (r := [.int v1220, .ref 43]) gx2_176 rfl (show zmt[102]? = some zM102 from rfl) rfl rfl rfl rfl (c_102 S1218 z1 pr1221) (kqP (fun v1221 h1221 => ?_)))
        show Pt _ _ _ 179 _ [.int v1221, .int v1220, .ref 43] _ _
        refine pt_d (pt_iasth (N' := 13) gx2_179 S1218 tl_43 h1220 h1221 (fun h_1222 S1222 p1222 q1222 e1222 K1222 => ?_))
        refine pt_d (pt_1 (fun n d => r_aloadn gx2_180 rfl) ?_)
        refine pt_d (pt_getR gx2_181 S1222 tr_41_4 ?_)
        refine pt_d (pt_bipush gx2_184 (fun v1224 h1224 => ?_))
        refine pt_d (pt_1 (fun n d => r_aloadn gx2_186 rfl) ?_)
        refine pt_d (pt_1 (fun n d => r_iloadn gx2_187 rfl) ?_)
        refine pt_d (pt_1 (fun n d => r_iloadn gx2_188 rfl) ?_)
        refine pt_d (pt_1 (fun n d => r_iloadn gx2_189 rfl) ?_)
        have H := H h_1222 S1222 (by rw [e1222]) K1222
        obtain ⟨pr1225, H⟩ := H
        refine pt_d (pt_virt (as := [.int x1, .int x2, .int x3]) (r := [.int v1224, .ref 43]) gx2_190 rfl (show zmt[6]? = some zM6 from rfl) rfl rfl rfl rfl (c_6 S1222 z1 z2 z3 pr1225) (kqP (fun v1225 h1225 => ?_)))
        show Pt _ _ _ 193 _ [.int v1225, .int v1224, .ref 43] _ _
        refine pt_d (pt_iasth (N' := 13) gx2_193 S1222 tl_43 h1224 h1225 (fun h_1226 S1226 p1226 q1226 e1226 K1226 => ?_))
        refine pt_d (pt_1 (fun n d => r_aloadn gx2_194 rfl) ?_)
        refine pt_d (pt_getR gx2_195 S1226 tr_41_4 ?_)
        refine pt_d (pt_bipush gx2_198 (fun v1228 h1228 => ?_))
        refine pt_d (pt_iconst gx2_200 (fun v1229 h1229 => ?_))
        refine pt_d (pt_iasth (N' := 13) gx2_201 S1226 tl_43 h1228 h1229 (fun h_1230 S1230 p1230 q1230 e1230 K1230 => ?_))
        refine pt_d (pt_1 (fun n d => r_aloadn gx2_202 rfl) ?_)
        refine pt_d (pt_getR gx2_203 S1230 tr_41_4 ?_)
        refine pt_d (pt_bipush gx2_206 (fun v1232 h1232 => ?_))
        refine pt_d (pt_1 (fun n d => r_aloadn gx2_208 rfl) ?_)
        refine pt_d (pt_getR gx2_209 S1230 tr_41_1 ?_)
        refine pt_d (pt_1 (fun n d => r_iloadn gx2_212 rfl) ?_)
        refine pt_d (pt_1 (fun n d => r_iloadn gx2_213 rfl) ?_)
        refine pt_d (pt_1 (fun n d => r_iloadn gx2_214 rfl) ?_)
        have H := H h_1230 S1230 (by rw [e1230, e1226]) (hk_t K1226 K1230)
        refine pt_d (pt_virt (as := [.int x1, .int x2, .int x3]) (r := [.int v1232, .ref 43]) gx2_215 rfl (show zmt[38]? = some zM38 from rfl) rfl rfl rfl rfl (c_38 S1230 z1 z2 z3) (kqP (fun v1234 h1234 => ?_)))
        show Pt _ _ _ 218 _ [.int v1234, .int v1232, .ref 43] _ _
        refine pt_d (pt_ifB_eq gx2_218 h1234 (fun e1235 => ?_) (fun e1235 => ?_))
        · have H := H.1 e1235
          refine pt_d (pt_iconst gx2_225 (fun v1236 h1236 => ?_))
          refine pt_d (pt_iasth (N' := 13) gx2_226 S1230 tl_43 h1232 h1236 (fun h_1237 S1237 p1237 q1237 e1237 K1237 => ?_))
          refine pt_d (pt_1 (fun n d => r_aloadn gx2_227 rfl) ?_)
          refine pt_d (pt_getR gx2_228 S1237 tr_41_4 ?_)
          refine pt_d (pt_bipush gx2_231 (fun v1239 h1239 => ?_))
          refine pt_d (pt_iconst gx2_233 (fun v1240 h1240 => ?_))
          refine pt_d (pt_iasth (N' := 13) gx2_234 S1237 tl_43 h1239 h1240 (fun h_1241 S1241 p1241 q1241 e1241 K1241 => ?_))
          refine pt_d (pt_iconst gx2_235 (fun v1242 h1242 => ?_))
          refine pt_d (pt_1 (fun n d => r_istore (L' := [some (.ref 41), some (.int x1), some (.int x2), some (.int x3), some (.ref q1001), some (.int v1003), some (.int v1004), some (.int v1242)]) gx2_236 rfl rfl) ?_)
          have H := H h_1241 S1241 (by rw [e1241, e1237]) (hk_t K1237 K1241)
          exact H v1003 v1004 v1242 h1003 h1004 h1242
        · have H := H.2 e1235
          refine pt_d (pt_iconst gx2_221 (fun v1243 h1243 => ?_))
          refine pt_d (pt_1 (fun n d => r_goto gx2_222) ?_)
          refine pt_d (pt_iasth (N' := 13) gx2_226 S1230 tl_43 h1232 h1243 (fun h_1244 S1244 p1244 q1244 e1244 K1244 => ?_))
          refine pt_d (pt_1 (fun n d => r_aloadn gx2_227 rfl) ?_)
          refine pt_d (pt_getR gx2_228 S1244 tr_41_4 ?_)
          refine pt_d (pt_bipush gx2_231 (fun v1246 h1246 => ?_))
          refine pt_d (pt_iconst gx2_233 (fun v1247 h1247 => ?_))
          refine pt_d (pt_iasth (N' := 13) gx2_234 S1244 tl_43 h1246 h1247 (fun h_1248 S1248 p1248 q1248 e1248 K1248 => ?_))
          refine pt_d (pt_iconst gx2_235 (fun v1249 h1249 => ?_))
          refine pt_d (pt_1 (fun n d => r_istore (L' := [some (.ref 41), some (.int x1), some (.int x2), some (.int x3), some (.ref q1001), some (.int v1003), some (.int v1004), some (.int v1249)]) gx2_236 rfl rfl) ?_)
          have H := H h_1248 S1248 (by rw [e1248, e1244]) (hk_t K1244 K1248)
          exact H v1003 v1004 v1249 h1003 h1004 h1249
      · have H := H.2 e1213
        refine pt_d (pt_iconst gx2_148 (fun v1250 h1250 => ?_))
        refine pt_d (pt_1 (fun n d => r_goto gx2_149) ?_)
        refine pt_d (pt_iasth (N' := 13) gx2_166 S1207 tl_43 h1209 h1250 (fun h_1251 S1251 p1251 q1251 e1251 K1251 => ?_))
        refine pt_d (pt_1 (fun n d => r_aloadn gx2_167 rfl) ?_)
        refine pt_d (pt_getR gx2_168 S1251 tr_41_4 ?_)
        refine pt_d (pt_bipush gx2_171 (fun v1253 h1253 => ?_))
        refine pt_d (pt_1 (fun n d => r_aload gx2_173 rfl) ?_)
        refine pt_d (pt_1 (fun n d => r_iloadn gx2_175 rfl) ?_)
        have H := H h_1251 S1251 (by rw [e1251, e1207]) (hk_t K1207 K1251)
        obtain ⟨pr1254, H⟩ := H
        refine pt_d (pt_virt (as := [.int x1]) (r := [.int v1253, .ref 43]) gx2_176 rfl (show zmt[102]? = some zM102 from rfl) rfl rfl rfl rfl (c_102 S1251 z1 pr1254) (kqP (fun v1254 h1254 => ?_)))
        show Pt _ _ _ 179 _ [.int v1254, .int v1253, .ref 43] _ _
        refine pt_d (pt_iasth (N' := 13) gx2_179 S1251 tl_43 h1253 h1254 (fun h_1255 S1255 p1255 q1255 e1255 K1255 => ?_))
        refine pt_d (pt_1 (fun n d => r_aloadn gx2_180 rfl) ?_)
        refine pt_d (pt_getR gx2_181 S1255 tr_41_4 ?_)
        refine pt_d (pt_bipush gx2_184 (fun v1257 h1257 => ?_))
        refine pt_d (pt_1 (fun n d => r_aloadn gx2_186 rfl) ?_)
        refine pt_d (pt_1 (fun n d => r_iloadn gx2_187 rfl) ?_)
        refine pt_d (pt_1 (fun n d => r_iloadn gx2_188 rfl) ?_)
        refine pt_d (pt_1 (fun n d => r_iloadn gx2_189 rfl) ?_)
        have H := H h_1255 S1255 (by rw [e1255]) K1255
        obtain ⟨pr1258, H⟩ := H
        refine pt_d (pt_virt (as := [.int x1, .int x2, .int x3]) (r := [.int v1257, .ref 43]) gx2_190 rfl (show zmt[6]? = some zM6 from rfl) rfl rfl rfl rfl (c_6 S1255 z1 z2 z3 pr1258) (kqP (fun v1258 h1258 => ?_)))
        show Pt _ _ _ 193 _ [.int v1258, .int v1257, .ref 43] _ _
        refine pt_d (pt_iasth (N' := 13) gx2_193 S1255 tl_43 h1257 h1258 (fun h_1259 S1259 p1259 q1259 e1259 K1259 => ?_))
        refine pt_d (pt_1 (fun n d => r_aloadn gx2_194 rfl) ?_)
        refine pt_d (pt_getR gx2_195 S1259 tr_41_4 ?_)
        refine pt_d (pt_bipush gx2_198 (fun v1261 h1261 => ?_))
        refine pt_d (pt_iconst gx2_200 (fun v1262 h1262 => ?_))
        refine pt_d (pt_iasth (N' := 13) gx2_201 S1259 tl_43 h1261 h1262 (fun h_1263 S1263 p1263 q1263 e1263 K1263 => ?_))
        refine pt_d (pt_1 (fun n d => r_aloadn gx2_202 rfl) ?_)
        refine pt_d (pt_getR gx2_203 S1263 tr_41_4 ?_)
        refine pt_d (pt_bipush gx2_206 (fun v1265 h1265 => ?_))
        refine pt_d (pt_1 (fun n d => r_aloadn gx2_208 rfl) ?_)
        refine pt_d (pt_getR gx2_209 S1263 tr_41_1 ?_)
        refine pt_d (pt_1 (fun n d => r_iloadn gx2_212 rfl) ?_)
        refine pt_d (pt_1 (fun n d => r_iloadn gx2_213 rfl) ?_)
        refine pt_d (pt_1 (fun n d => r_iloadn gx2_214 rfl) ?_)
        have H := H h_1263 S1263 (by rw [e1263, e1259]) (hk_t K1259 K1263)
        refine pt_d (pt_virt (as := [.int x1, .int x2, .int x3]) (r := [.int v1265, .ref 43]) gx2_215 rfl (show zmt[38]? = some zM38 from rfl) rfl rfl rfl rfl (c_38 S1263 z1 z2 z3) (kqP (fun v1267 h1267 => ?_)))
        show Pt _ _ _ 218 _ [.int v1267, .int v1265, .ref 43] _ _
        refine pt_d (pt_ifB_eq gx2_218 h1267 (fun e1268 => ?_) (fun e1268 => ?_))
        · have H := H.1 e1268
          refine pt_d (pt_iconst gx2_225 (fun v1269 h1269 => ?_))
          refine pt_d (pt_iasth (N' := 13) gx2_226 S1263 tl_43 h1265 h1269 (fun h_1270 S1270 p1270 q1270 e1270 K1270 => ?_))
          refine pt_d (pt_1 (fun n d => r_aloadn gx2_227 rfl) ?_)
          refine pt_d (pt_getR gx2_228 S1270 tr_41_4 ?_)
          refine pt_d (pt_bipush gx2_231 (fun v1272 h1272 => ?_))
          refine pt_d (pt_iconst gx2_233 (fun v1273 h1273 => ?_))
          refine pt_d (pt_iasth (N' := 13) gx2_234 S1270 tl_43 h1272 h1273 (fun h_1274 S1274 p1274 q1274 e1274 K1274 => ?_))
          refine pt_d (pt_iconst gx2_235 (fun v1275 h1275 => ?_))
          refine pt_d (pt_1 (fun n d => r_istore (L' := [some (.ref 41), some (.int x1), some (.int x2), some (.int x3), some (.ref q1001), some (.int v1003), some (.int v1004), some (.int v1275)]) gx2_236 rfl rfl) ?_)
          have H := H h_1274 S1274 (by rw [e1274, e1270]) (hk_t K1270 K1274)
          exact H v1003 v1004 v1275 h1003 h1004 h1275
        · have H := H.2 e1268
          refine pt_d (pt_iconst gx2_221 (fun v1276 h1276 => ?_))
          refine pt_d (pt_1 (fun n d => r_goto gx2_222) ?_)
          refine pt_d (pt_iasth (N' := 13) gx2_226 S1263 tl_43 h1265 h1276 (fun h_1277 S1277 p1277 q1277 e1277 K1277 => ?_))
          refine pt_d (pt_1 (fun n d => r_aloadn gx2_227 rfl) ?_)
          refine pt_d (pt_getR gx2_228 S1277 tr_41_4 ?_)
          refine pt_d (pt_bipush gx2_231 (fun v1279 h1279 => ?_))
          refine pt_d (pt_iconst gx2_233 (fun v1280 h1280 => ?_))
          refine pt_d (pt_iasth (N' := 13) gx2_234 S1277 tl_43 h1279 h1280 (fun h_1281 S1281 p1281 q1281 e1281 K1281 => ?_))
          refine pt_d (pt_iconst gx2_235 (fun v1282 h1282 => ?_))
          refine pt_d (pt_1 (fun n d => r_istore (L' := [some (.ref 41), some (.int x1), some (.int x2), some (.int x3), some (.ref q1001), some (.int v1003), some (.int v1004), some (.int v1282)]) gx2_236 rfl rfl) ?_)
          have H := H h_1281 S1281 (by rw [e1281, e1277]) (hk_t K1277 K1281)
          exact H v1003 v1004 v1282 h1003 h1004 h1282
    · have H := H.2 e1202
      refine pt_d (pt_iconst gx2_116 (fun v1283 h1283 => ?_))
      refine pt_d (pt_1 (fun n d => r_goto gx2_117) ?_)
      refine pt_d (pt_iasth (N' := 13) gx2_130 S1199 tl_43 h1201 h1283 (fun h_1284 S1284 p1284 q1284 e1284 K1284 => ?_))
      refine pt_d (pt_1 (fun n d => r_aloadn gx2_131 rfl) ?_)
      refine pt_d (pt_getR gx2_132 S1284 tr_41_4 ?_)
      refine pt_d (pt_bipush gx2_135 (fun v1286 h1286 => ?_))
      refine pt_d (pt_1 (fun n d => r_aload gx2_137 rfl) ?_)
      obtain ⟨pr1287, H⟩ := H
      refine pt_d (pt_getK (B := 12) gx2_139 S1284 (by rw [e1284, e1199]; exact pr1287) ?_)
      refine pt_d (pt_1 (fun n d => r_iloadn gx2_142 rfl) ?_)
      refine pt_d (pt_ialdD gx2_143 z1 (fun v1288 p1288 h1288 => ?_))
      have H := H p1288
      have h1288 : v1288.toInt = (up (up (vw h_1195) 43 5 (nQ (fun j => 0 < (vw h_1195) 44 j) 8)) 43 6 0) (q1001 + 7) a1 := by rw [h1288, e1284, e1199]
      refine pt_d (pt_iconst gx2_144 (fun v1289 h1289 => ?_))
      refine pt_d (pt_icmp_ne gx2_145 h1288 h1289 (fun e1290 => ?_) (fun e1290 => ?_))
      · have H := H.1 e1290
        refine pt_d (pt_1 (fun n d => r_aloadn gx2_152 rfl) ?_)
        refine pt_d (pt_getR gx2_153 S1284 tr_41_1 ?_)
        refine pt_d (pt_1 (fun n d => r_aload gx2_156 rfl) ?_)
        obtain ⟨pr1292, H⟩ := H
        refine pt_d (pt_getK (B := 12) gx2_158 S1284 (by rw [e1284, e1199]; exact pr1292) ?_)
        refine pt_d (pt_1 (fun n d => r_iloadn gx2_161 rfl) ?_)
        refine pt_d (pt_ialdD gx2_162 z1 (fun v1293 p1293 h1293 => ?_))
        have H := H p1293
        have h1293 : v1293.toInt = (up (up (vw h_1195) 43 5 (nQ (fun j => 0 < (vw h_1195) 44 j) 8)) 43 6 0) (q1001 + 7) a1 := by rw [h1293, e1284, e1199]
        have H := H h_1284 S1284 (by rw [e1284, e1199]) (hk_t K1199 K1284)
        refine pt_d (pt_virt (as := [.int v1293]) (r := [.int v1286, .ref 43]) gx2_163 rfl (show zmt[31]? = some zM31 from rfl) rfl rfl rfl rfl (c_31 S1284 h1293) (kqP (fun v1294 h1294 => ?_)))
        show Pt _ _ _ 166 _ [.int v1294, .int v1286, .ref 43] _ _
        refine pt_d (pt_iasth (N' := 13) gx2_166 S1284 tl_43 h1286 h1294 (fun h_1295 S1295 p1295 q1295 e1295 K1295 => ?_))
        refine pt_d (pt_1 (fun n d => r_aloadn gx2_167 rfl) ?_)
        refine pt_d (pt_getR gx2_168 S1295 tr_41_4 ?_)
        refine pt_d (pt_bipush gx2_171 (fun v1297 h1297 => ?_))
        refine pt_d (pt_1 (fun n d => r_aload gx2_173 rfl) ?_)
        refine pt_d (pt_1 (fun n d => r_iloadn gx2_175 rfl) ?_)
        have H := H h_1295 S1295 (by rw [e1295]) K1295
        obtain ⟨pr1298, H⟩ := H
        refine pt_d (pt_virt (as := [.int x1]) (r := [.int v1297, .ref 43]) gx2_176 rfl (show zmt[102]? = some zM102 from rfl) rfl rfl rfl rfl (c_102 S1295 z1 pr1298) (kqP (fun v1298 h1298 => ?_)))
        show Pt _ _ _ 179 _ [.int v1298, .int v1297, .ref 43] _ _
        refine pt_d (pt_iasth (N' := 13) gx2_179 S1295 tl_43 h1297 h1298 (fun h_1299 S1299 p1299 q1299 e1299 K1299 => ?_))
        refine pt_d (pt_1 (fun n d => r_aloadn gx2_180 rfl) ?_)
        refine pt_d (pt_getR gx2_181 S1299 tr_41_4 ?_)
        refine pt_d (pt_bipush gx2_184 (fun v1301 h1301 => ?_))
        refine pt_d (pt_1 (fun n d => r_aloadn gx2_186 rfl) ?_)
        refine pt_d (pt_1 (fun n d => r_iloadn gx2_187 rfl) ?_)
        refine pt_d (pt_1 (fun n d => r_iloadn gx2_188 rfl) ?_)
        refine pt_d (pt_1 (fun n d => r_iloadn gx2_189 rfl) ?_)
        have H := H h_1299 S1299 (by rw [e1299]) K1299
        obtain ⟨pr1302, H⟩ := H
        refine pt_d (pt_virt (as := [.int x1, .int x2, .int x3]) (r := [.int v1301, .ref 43]) gx2_190 rfl (show zmt[6]? = some zM6 from rfl) rfl rfl rfl rfl (c_6 S1299 z1 z2 z3 pr1302) (kqP (fun v1302 h1302 => ?_)))
        show Pt _ _ _ 193 _ [.int v1302, .int v1301, .ref 43] _ _
        refine pt_d (pt_iasth (N' := 13) gx2_193 S1299 tl_43 h1301 h1302 (fun h_1303 S1303 p1303 q1303 e1303 K1303 => ?_))
        refine pt_d (pt_1 (fun n d => r_aloadn gx2_194 rfl) ?_)
        refine pt_d (pt_getR gx2_195 S1303 tr_41_4 ?_)
        refine pt_d (pt_bipush gx2_198 (fun v1305 h1305 => ?_))
        refine pt_d (pt_iconst gx2_200 (fun v1306 h1306 => ?_))
        refine pt_d (pt_iasth (N' := 13) gx2_201 S1303 tl_43 h1305 h1306 (fun h_1307 S1307 p1307 q1307 e1307 K1307 => ?_))
        refine pt_d (pt_1 (fun n d => r_aloadn gx2_202 rfl) ?_)
        refine pt_d (pt_getR gx2_203 S1307 tr_41_4 ?_)
        refine pt_d (pt_bipush gx2_206 (fun v1309 h1309 => ?_))
        refine pt_d (pt_1 (fun n d => r_aloadn gx2_208 rfl) ?_)
        refine pt_d (pt_getR gx2_209 S1307 tr_41_1 ?_)
        refine pt_d (pt_1 (fun n d => r_iloadn gx2_212 rfl) ?_)
        refine pt_d (pt_1 (fun n d => r_iloadn gx2_213 rfl) ?_)
        refine pt_d (pt_1 (fun n d => r_iloadn gx2_214 rfl) ?_)
        have H := H h_1307 S1307 (by rw [e1307, e1303]) (hk_t K1303 K1307)
        refine pt_d (pt_virt (as := [.int x1, .int x2, .int x3]) (r := [.int v1309, .ref 43]) gx2_215 rfl (show zmt[38]? = some zM38 from rfl) rfl rfl rfl rfl (c_38 S1307 z1 z2 z3) (kqP (fun v1311 h1311 => ?_)))
        show Pt _ _ _ 218 _ [.int v1311, .int v1309, .ref 43] _ _
        refine pt_d (pt_ifB_eq gx2_218 h1311 (fun e1312 => ?_) (fun e1312 => ?_))
        · have H := H.1 e1312
          refine pt_d (pt_iconst gx2_225 (fun v1313 h1313 => ?_))
          refine pt_d (pt_iasth (N' := 13) gx2_226 S1307 tl_43 h1309 h1313 (fun h_1314 S1314 p1314 q1314 e1314 K1314 => ?_))
          refine pt_d (pt_1 (fun n d => r_aloadn gx2_227 rfl) ?_)
          refine pt_d (pt_getR gx2_228 S1314 tr_41_4 ?_)
          refine pt_d (pt_bipush gx2_231 (fun v1316 h1316 => ?_))
          refine pt_d (pt_iconst gx2_233 (fun v1317 h1317 => ?_))
          refine pt_d (pt_iasth (N' := 13) gx2_234 S1314 tl_43 h1316 h1317 (fun h_1318 S1318 p1318 q1318 e1318 K1318 => ?_))
          refine pt_d (pt_iconst gx2_235 (fun v1319 h1319 => ?_))
          refine pt_d (pt_1 (fun n d => r_istore (L' := [some (.ref 41), some (.int x1), some (.int x2), some (.int x3), some (.ref q1001), some (.int v1003), some (.int v1004), some (.int v1319)]) gx2_236 rfl rfl) ?_)
          have H := H h_1318 S1318 (by rw [e1318, e1314]) (hk_t K1314 K1318)
          exact H v1003 v1004 v1319 h1003 h1004 h1319
        · have H := H.2 e1312
          refine pt_d (pt_iconst gx2_221 (fun v1320 h1320 => ?_))
          refine pt_d (pt_1 (fun n d => r_goto gx2_222) ?_)
          refine pt_d (pt_iasth (N' := 13) gx2_226 S1307 tl_43 h1309 h1320 (fun h_1321 S1321 p1321 q1321 e1321 K1321 => ?_))
          refine pt_d (pt_1 (fun n d => r_aloadn gx2_227 rfl) ?_)
          refine pt_d (pt_getR gx2_228 S1321 tr_41_4 ?_)
          refine pt_d (pt_bipush gx2_231 (fun v1323 h1323 => ?_))
          refine pt_d (pt_iconst gx2_233 (fun v1324 h1324 => ?_))
          refine pt_d (pt_iasth (N' := 13) gx2_234 S1321 tl_43 h1323 h1324 (fun h_1325 S1325 p1325 q1325 e1325 K1325 => ?_))
          refine pt_d (pt_iconst gx2_235 (fun v1326 h1326 => ?_))
          refine pt_d (pt_1 (fun n d => r_istore (L' := [some (.ref 41), some (.int x1), some (.int x2), some (.int x3), some (.ref q1001), some (.int v1003), some (.int v1004), some (.int v1326)]) gx2_236 rfl rfl) ?_)
          have H := H h_1325 S1325 (by rw [e1325, e1321]) (hk_t K1321 K1325)
          exact H v1003 v1004 v1326 h1003 h1004 h1326
      · have H := H.2 e1290
        refine pt_d (pt_iconst gx2_148 (fun v1327 h1327 => ?_))
        refine pt_d (pt_1 (fun n d => r_goto gx2_149) ?_)
        refine pt_d (pt_iasth (N' := 13) gx2_166 S1284 tl_43 h1286 h1327 (fun h_1328 S1328 p1328 q1328 e1328 K1328 => ?_))
        refine pt_d (pt_1 (fun n d => r_aloadn gx2_167 rfl) ?_)
        refine pt_d (pt_getR gx2_168 S1328 tr_41_4 ?_)
        refine pt_d (pt_bipush gx2_171 (fun v1330 h1330 => ?_))
        refine pt_d (pt_1 (fun n d => r_aload gx2_173 rfl) ?_)
        refine pt_d (pt_1 (fun n d => r_iloadn gx2_175 rfl) ?_)
        have H := H h_1328 S1328 (by rw [e1328, e1284, e1199]) (hk_t (hk_t K1199 K1284) K1328)
        obtain ⟨pr1331, H⟩ := H
        refine pt_d (pt_virt (as := [.int x1]) (r := [.int v1330, .ref 43]) gx2_176 rfl (show zmt[102]? = some zM102 from rfl) rfl rfl rfl rfl (c_102 S1328 z1 pr1331) (kqP (fun v1331 h1331 => ?_)))
        show Pt _ _ _ 179 _ [.int v1331, .int v1330, .ref 43] _ _
        refine pt_d (pt_iasth (N' := 13) gx2_179 S1328 tl_43 h1330 h1331 (fun h_1332 S1332 p1332 q1332 e1332 K1332 => ?_))
        refine pt_d (pt_1 (fun n d => r_aloadn gx2_180 rfl) ?_)
        refine pt_d (pt_getR gx2_181 S1332 tr_41_4 ?_)
        refine pt_d (pt_bipush gx2_184 (fun v1334 h1334 => ?_))
        refine pt_d (pt_1 (fun n d => r_aloadn gx2_186 rfl) ?_)
        refine pt_d (pt_1 (fun n d => r_iloadn gx2_187 rfl) ?_)
        refine pt_d (pt_1 (fun n d => r_iloadn gx2_188 rfl) ?_)
        refine pt_d (pt_1 (fun n d => r_iloadn gx2_189 rfl) ?_)
        have H := H h_1332 S1332 (by rw [e1332]) K1332
        obtain ⟨pr1335, H⟩ := H
        refine pt_d (pt_virt (as := [.int x1, .int x2, .int x3]) (r := [.int v1334, .ref 43]) gx2_190 rfl (show zmt[6]? = some zM6 from rfl) rfl rfl rfl rfl (c_6 S1332 z1 z2 z3 pr1335) (kqP (fun v1335 h1335 => ?_)))
        show Pt _ _ _ 193 _ [.int v1335, .int v1334, .ref 43] _ _
        refine pt_d (pt_iasth (N' := 13) gx2_193 S1332 tl_43 h1334 h1335 (fun h_1336 S1336 p1336 q1336 e1336 K1336 => ?_))
        refine pt_d (pt_1 (fun n d => r_aloadn gx2_194 rfl) ?_)
        refine pt_d (pt_getR gx2_195 S1336 tr_41_4 ?_)
        refine pt_d (pt_bipush gx2_198 (fun v1338 h1338 => ?_))
        refine pt_d (pt_iconst gx2_200 (fun v1339 h1339 => ?_))
        refine pt_d (pt_iasth (N' := 13) gx2_201 S1336 tl_43 h1338 h1339 (fun h_1340 S1340 p1340 q1340 e1340 K1340 => ?_))
        refine pt_d (pt_1 (fun n d => r_aloadn gx2_202 rfl) ?_)
        refine pt_d (pt_getR gx2_203 S1340 tr_41_4 ?_)
        refine pt_d (pt_bipush gx2_206 (fun v1342 h1342 => ?_))
        refine pt_d (pt_1 (fun n d => r_aloadn gx2_208 rfl) ?_)
        refine pt_d (pt_getR gx2_209 S1340 tr_41_1 ?_)
        refine pt_d (pt_1 (fun n d => r_iloadn gx2_212 rfl) ?_)
        refine pt_d (pt_1 (fun n d => r_iloadn gx2_213 rfl) ?_)
        refine pt_d (pt_1 (fun n d => r_iloadn gx2_214 rfl) ?_)
        have H := H h_1340 S1340 (by rw [e1340, e1336]) (hk_t K1336 K1340)
        refine pt_d (pt_virt (as := [.int x1, .int x2, .int x3]) (r := [.int v1342, .ref 43]) gx2_215 rfl (show zmt[38]? = some zM38 from rfl) rfl rfl rfl rfl (c_38 S1340 z1 z2 z3) (kqP (fun v1344 h1344 => ?_)))
        show Pt _ _ _ 218 _ [.int v1344, .int v1342, .ref 43] _ _
        refine pt_d (pt_ifB_eq gx2_218 h1344 (fun e1345 => ?_) (fun e1345 => ?_))
        · have H := H.1 e1345
          refine pt_d (pt_iconst gx2_225 (fun v1346 h1346 => ?_))
          refine pt_d (pt_iasth (N' := 13) gx2_226 S1340 tl_43 h1342 h1346 (fun h_1347 S1347 p1347 q1347 e1347 K1347 => ?_))
          refine pt_d (pt_1 (fun n d => r_aloadn gx2_227 rfl) ?_)
          refine pt_d (pt_getR gx2_228 S1347 tr_41_4 ?_)
          refine pt_d (pt_bipush gx2_231 (fun v1349 h1349 => ?_))
          refine pt_d (pt_iconst gx2_233 (fun v1350 h1350 => ?_))
          refine pt_d (pt_iasth (N' := 13) gx2_234 S1347 tl_43 h1349 h1350 (fun h_1351 S1351 p1351 q1351 e1351 K1351 => ?_))
          refine pt_d (pt_iconst gx2_235 (fun v1352 h1352 => ?_))
          refine pt_d (pt_1 (fun n d => r_istore (L' := [some (.ref 41), some (.int x1), some (.int x2), some (.int x3), some (.ref q1001), some (.int v1003), some (.int v1004), some (.int v1352)]) gx2_236 rfl rfl) ?_)
          have H := H h_1351 S1351 (by rw [e1351, e1347]) (hk_t K1347 K1351)
          exact H v1003 v1004 v1352 h1003 h1004 h1352
        · have H := H.2 e1345
          refine pt_d (pt_iconst gx2_221 (fun v1353 h1353 => ?_))
          refine pt_d (pt_1 (fun n d => r_goto gx2_222) ?_)
          refine pt_d (pt_iasth (N' := 13) gx2_226 S1340 tl_43 h1342 h1353 (fun h_1354 S1354 p1354 q1354 e1354 K1354 => ?_))
          refine pt_d (pt_1 (fun n d => r_aloadn gx2_227 rfl) ?_)
          refine pt_d (pt_getR gx2_228 S1354 tr_41_4 ?_)
          refine pt_d (pt_bipush gx2_231 (fun v1356 h1356 => ?_))
          refine pt_d (pt_iconst gx2_233 (fun v1357 h1357 => ?_))
          refine pt_d (pt_iasth (N' := 13) gx2_234 S1354 tl_43 h1356 h1357 (fun h_1358 S1358 p1358 q1358 e1358 K1358 => ?_))
          refine pt_d (pt_iconst gx2_235 (fun v1359 h1359 => ?_))
          refine pt_d (pt_1 (fun n d => r_istore (L' := [some (.ref 41), some (.int x1), some (.int x2), some (.int x3), some (.ref q1001), some (.int v1003), some (.int v1004), some (.int v1359)]) gx2_236 rfl rfl) ?_)
          have H := H h_1358 S1358 (by rw [e1358, e1354]) (hk_t K1354 K1358)
          exact H v1003 v1004 v1359 h1003 h1004 h1359
theorem d2_238 {n : Nat} {X : aX} {h : aH} {P : aH → Prop} {x1 x2 x3 x5 x6 x7 : Int32} {a1 a2 a3 a5 a6 a7 : Int} {q4 : Nat} (S : wS h) (z1 : x1.toInt = a1) (z2 : x2.toInt = a2) (z3 : x3.toInt = a3) (z5 : x5.toInt = a5) (z6 : x6.toInt = a6) (z7 : x7.toInt = a7) (H : ((a2 ≤ a7 → P h) ∧ (a7 < a2 → ((p1 h a7) ∧ ∀ (q1005 : Nat) (h_1005 : aH), (wS h_1005 ∧ R1 h a7 a3 q1005 h_1005) → ((vw h_1005) q1005 11 = (((q1005 + 6) : Nat) : Int) ∧ (0 ≤ a1 → ((vw h_1005 (q1005 + 6) a1 ≤ 0 → ∀ h_1011 : aH, wS h_1011 → vw h_1011 = up (vw h_1005) 43 12 (w32 ((vw h 43 12) + 0)) → hk h_1005 h_1011 → (∀ (w7 : Int32), w7.toInt = w32 (a7 + 1) → Pt n X zM2 238 [some (.ref 41), some (.int x1), some (.int x2), some (.int x3), some (.ref q4), some (.int x5), some (.int x6), some (.int w7)] [] h_1011 (qN P))) ∧ (0 < vw h_1005 (q1005 + 6) a1 → ∀ h_1015 : aH, wS h_1015 → vw h_1015 = up (vw h_1005) 43 12 (w32 ((vw h 43 12) + 1)) → hk h_1005 h_1015 → (∀ (w7 : Int32), w7.toInt = w32 (a7 + 1) → Pt n X zM2 238 [some (.ref 41), some (.int x1), some (.int x2), some (.int x3), some (.ref q4), some (.int x5), some (.int x6), some (.int w7)] [] h_1015 (qN P)))))))))) : Pt (n + 1) X zM2 238 [some (.ref 41), some (.int x1), some (.int x2), some (.int x3), some (.ref q4), some (.int x5), some (.int x6), some (.int x7)] [] h (qN P) := by
  refine pt_1 (fun n d => r_iload gx2_238 rfl) ?_
  refine pt_d (pt_1 (fun n d => r_iloadn gx2_240 rfl) ?_)
  refine pt_d (pt_icmp_ge gx2_241 z7 z2 (fun e1001 => ?_) (fun e1001 => ?_))
  · have H := H.1 e1001
    exact pt_d (pt_vret gx2_280 ⟨rfl, H⟩)
  · have H := H.2 e1001
    refine pt_d (pt_1 (fun n d => r_aloadn gx2_244 rfl) ?_)
    refine pt_d (pt_getR gx2_245 S tr_41_4 ?_)
    refine pt_d (pt_bipush gx2_248 (fun v1003 h1003 => ?_))
    refine pt_d (pt_1 (fun n d => r_dup2 gx2_250 rfl) ?_)
    refine pt_d (pt_iald (N' := 13) gx2_251 S tl_43 h1003 (fun v1004 p1004 q1004 h1004 => ?_))
    refine pt_d (pt_1 (fun n d => r_aloadn gx2_252 rfl) ?_)
    refine pt_d (pt_1 (fun n d => r_iload gx2_253 rfl) ?_)
    refine pt_d (pt_1 (fun n d => r_iloadn gx2_255 rfl) ?_)
    obtain ⟨pr1005, H⟩ := H
    refine pt_d (pt_virt (as := [.int x7, .int x3]) (r := [.int v1004, .int v1003, .ref 43]) gx2_256 rfl (show zmt[1]? = some zM1 from rfl) rfl rfl rfl rfl (c_1 S z7 z3 pr1005) (kqR (fun q1005 h_1005 P1005 => ?_)))
    have S1005 := P1005.1
    have H := H q1005 h_1005 P1005
    show Pt _ _ _ 259 _ [.ref q1005, .int v1004, .int v1003, .ref 43] _ _
    obtain ⟨pr1006, H⟩ := H
    refine pt_d (pt_getK (B := 11) gx2_259 S1005 (pr1006) ?_)
    refine pt_d (pt_1 (fun n d => r_iloadn gx2_262 rfl) ?_)
    refine pt_d (pt_ialdD gx2_263 z1 (fun v1007 p1007 h1007 => ?_))
    have H := H p1007
    refine pt_d (pt_if_le gx2_264 h1007 (fun e1008 => ?_) (fun e1008 => ?_))
    · have H := H.1 e1008
      refine pt_d (pt_iconst gx2_271 (fun v1009 h1009 => ?_))
      refine pt_d (pt_iadd gx2_272 h1004 h1009 (fun v1010 h1010 => ?_))
      refine pt_d (pt_iasth (N' := 13) gx2_273 S1005 tl_43 h1003 h1010 (fun h_1011 S1011 p1011 q1011 e1011 K1011 => ?_))
      refine pt_d (pt_iinc (c := 1) gx2_274 rfl z7 (fun v1012 h1012 => ?_))
      show Pt _ _ _ _ [some (.ref 41), some (.int x1), some (.int x2), some (.int x3), some (.ref q4), some (.int x5), some (.int x6), some (.int v1012)] [] _ _
      refine pt_d (pt_1 (fun n d => r_goto gx2_277) ?_)
      have H := H h_1011 S1011 (by rw [e1011]) K1011
      exact H v1012 h1012
    · have H := H.2 e1008
      refine pt_d (pt_iconst gx2_267 (fun v1013 h1013 => ?_))
      refine pt_d (pt_1 (fun n d => r_goto gx2_268) ?_)
      refine pt_d (pt_iadd gx2_272 h1004 h1013 (fun v1014 h1014 => ?_))
      refine pt_d (pt_iasth (N' := 13) gx2_273 S1005 tl_43 h1003 h1014 (fun h_1015 S1015 p1015 q1015 e1015 K1015 => ?_))
      refine pt_d (pt_iinc (c := 1) gx2_274 rfl z7 (fun v1016 h1016 => ?_))
      show Pt _ _ _ _ [some (.ref 41), some (.int x1), some (.int x2), some (.int x3), some (.ref q4), some (.int x5), some (.int x6), some (.int v1016)] [] _ _
      refine pt_d (pt_1 (fun n d => r_goto gx2_277) ?_)
      have H := H h_1015 S1015 (by rw [e1015]) K1015
      exact H v1016 h1016
theorem l_2 {X : aX} {V : vS} {f y t : Int} {T : Int → Int} (A : AP V) (hf : 0 ≤ f ∧ f < 150) (hy : 0 ≤ y ∧ y ≤ 9) : ∀ (n : Nat) (h : aH) (x1 x2 x3 x5 x6 x7 : Int32) (q k : Nat), wS h → IV h → x1.toInt = f → x2.toInt = y → x3.toInt = t → x7.toInt = (k : Int) → (k : Int) ≤ y → (∀ (c : Nat) j, c < 146 → c ≠ 42 → c ≠ 43 → c ≠ 44 → vw h c j = V c j) → (∀ j, 0 ≤ j → j < 12 → vw h 43 j = T j) → vw h 43 12 = nQ (fun y' => 0 < kM V t y' f) k → Pt n X zM2 238 [some (.ref 41), some (.int x1), some (.int x2), some (.int x3), some (.ref q), some (.int x5), some (.int x6), some (.int x7)] [] h (qN (fun h' => wS h' ∧ IV h' ∧ FC V f y t T (vw h'))) := by
  intro n
  induction n with
  | zero => intros; exact pt_z
  | succ n ih =>
    intro h x1 x2 x3 x5 x6 x7 q k S I h1 h2 h3 h7 hk' F N12 E
    have b := nQ_b (fun y' => 0 < kM V t y' f) k
    refine d2_238 S h1 h2 h3 rfl rfl h7 ⟨fun e => ⟨S, I, F, N12, ?_⟩, fun e => ⟨p1_any I _, fun q5 g R => ?_⟩⟩
    · rw [E, show y.toNat = k by omega]
    · obtain ⟨Sg, R⟩ := R
      have fg := R1_f R
      have Ig := IV_1 I R
      have sl := R1_PR I R
      have Fg : ∀ (c : Nat) j, c < 146 → c ≠ 42 → c ≠ 43 → c ≠ 44 → vw g c j = V c j := fun c j u v w z => (fg c j u v).trans (F c j u v w z)
      have Ag : AP (vw g) := AP_k A (fun c j z => Fg c j (by omega) (by omega) (by omega) (by omega))
      have Sc := R1_sc I R
      have hq : 146 ≤ q5 := R.1.1
      have m6 : vw g (q5 + 6) f = kM V t (k : Nat) f := (tot_e Ag Sc hf).2.1.trans (kM_k (agM_of (fun c j u v => Fg c j (by omega) (by omega) (by omega) (by omega))) t _ f)
      have g43 : ∀ j, vw g 43 j = vw h 43 j := fun j => fg 43 j (by decide) (by decide)
      refine ⟨sl.2.2.2.2.2.2.2.1, fun _ => ⟨fun z g2 S2 eg K w7 g7 => ?_, fun z g2 S2 eg K w7 g7 => ?_⟩⟩
      · replace g7 := w_1 g7 (by omega) (by omega)
        rw [m6] at z
        refine ih g2 x1 x2 x3 x5 x6 w7 q (k + 1) S2 (IV_43 Ig K (fun c j u => by rw [eg, up_c u])) h1 h2 h3 (by omega) (by omega) (fun c j u v w x => by rw [eg, up_c w]; exact Fg c j u v w x) (fun j u v => by rw [eg, up_j (by omega), g43]; exact N12 j u v) ?_
        rw [eg, up_s, E, nQ_f (P := fun y' => 0 < kM V t y' f) (show ¬ 0 < kM V t (k : Nat) f by omega)]
        exact w32_id (by omega) (by omega)
      · replace g7 := w_1 g7 (by omega) (by omega)
        rw [m6] at z
        refine ih g2 x1 x2 x3 x5 x6 w7 q (k + 1) S2 (IV_43 Ig K (fun c j u => by rw [eg, up_c u])) h1 h2 h3 (by omega) (by omega) (fun c j u v w x => by rw [eg, up_c w]; exact Fg c j u v w x) (fun j u v => by rw [eg, up_j (by omega), g43]; exact N12 j u v) ?_
        rw [eg, up_s, E, nQ_t (P := fun y' => 0 < kM V t y' f) z]
        exact w32_id (by omega) (by omega)
-- the names laid one by one
def Kn (V : vS) (T : Int → Int) (m : Int) (W : vS) : Prop := (∀ (c : Nat) j, c ≠ 43 → W c j = V c j) ∧ ∀ j, 0 ≤ j → j < m → W 43 j = T j
theorem Kn_s {V W : vS} {T : Int → Int} {m v : Int} (K : Kn V T m W) (e : v = T m) : Kn V T (m + 1) (up W 43 m v) := by
  refine ⟨fun c j u => by rw [up_c u]; exact K.1 c j u, fun j u w => ?_⟩
  rw [up_p]
  by_cases z : j = m
  · rw [if_pos z, e, z]
  · rw [if_neg z]
    exact K.2 j u (by omega)
theorem Kn_0 (V : vS) (T : Int → Int) : Kn V T 0 V := ⟨fun _ _ _ => rfl, fun j a b => by omega⟩
noncomputable def nT (V : vS) (q : Nat) (f y t r s : Int) (j : Int) : Int := if j = 0 then y else if j = 1 then V 2 f else if j = 2 then s else if j = 3 then w32 (s - V (q + 6) f) else if j = 4 then (if s = 0 then 0 else iDiv (w32 (100 * r)) s) else if j = 5 then nQ (fun j => 0 < V 44 j) 8 else if j = 6 then (if s = 0 then 0 else iDiv (w32 (100 * mxN (fun j => V 44 j) 8)) s) else if j = 7 then (if V (q + 7) f = -1 then 0 else lt1 V (V (q + 7) f)) else if j = 8 then cErr V q f else if j = 9 then nQ (fun i => cHold V (V 6 i) (ldY y) t = f) (V 1 4).toNat else if j = 10 then 0 else bI (cPrv V f y t)
section NT
variable (V : vS) (q : Nat) (f y t r s : Int)
theorem nT_0 : nT V q f y t r s 0 = y := rfl
theorem nT_1 : nT V q f y t r s 1 = V 2 f := rfl
theorem nT_2 : nT V q f y t r s 2 = s := rfl
theorem nT_3 : nT V q f y t r s 3 = w32 (s - V (q + 6) f) := rfl
theorem nT_4 : nT V q f y t r s 4 = (if s = 0 then 0 else iDiv (w32 (100 * r)) s) := rfl
theorem nT_5 : nT V q f y t r s 5 = nQ (fun j => 0 < V 44 j) 8 := rfl
theorem nT_6 : nT V q f y t r s 6 = (if s = 0 then 0 else iDiv (w32 (100 * mxN (fun j => V 44 j) 8)) s) := rfl
theorem nT_7 : nT V q f y t r s 7 = (if V (q + 7) f = -1 then 0 else lt1 V (V (q + 7) f)) := rfl
theorem nT_8 : nT V q f y t r s 8 = cErr V q f := rfl
theorem nT_9 : nT V q f y t r s 9 = nQ (fun i => cHold V (V 6 i) (ldY y) t = f) (V 1 4).toNat := rfl
theorem nT_10 : nT V q f y t r s 10 = 0 := rfl
theorem nT_11 : nT V q f y t r s 11 = bI (cPrv V f y t) := rfl
end NT

