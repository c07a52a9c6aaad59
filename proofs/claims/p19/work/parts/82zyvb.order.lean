-- ===== 82zyvb.order: 2 texts =====
section
-- ===== seasons: the order of the claims =====
theorem e157_0 {n : Nat} {X : aX} {h : aH} {P : Int → aH → Prop} {x1 x2 x3 : Int32} {a1 a2 a3 : Int} (S : wS h) (z1 : x1.toInt = a1) (z2 : x2.toInt = a2) (z3 : x3.toInt = a3) (H : ((¬ (cFarm (vw h) a1) → P (-1) h) ∧ ((cFarm (vw h) a1) → ((¬ (cField (vw h) a2) → P (-1) h) ∧ ((cField (vw h) a2) → (((0 ≤ a3 ∧ a3 ≤ 7) → (0 ≤ a2 → a2 < 150 → ((vw h 2 a2 ≠ 5 → (vw h 1 6 ≤ 200 ∧ ((cHold (vw h) a2 (vw h 1 0) (vw h 1 0) ≠ a1 → P (-2) h) ∧ (cHold (vw h) a2 (vw h 1 0) (vw h 1 0) = a1 → ((vw h 5 a2 = (-1) → ((vw h 16 1 < 300 → ∀ (y34 : Int) (h_34 : aH), (wS h_34 ∧ RClo (vw h) a1 a2 a3 y34 (vw h_34)) → P y34 h_34) ∧ (300 ≤ vw h 16 1 → P (-3) h))) ∧ (vw h 5 a2 ≠ (-1) → P (-2) h)))))) ∧ (vw h 2 a2 = 5 → ((a3 = 0 → (vw h 1 6 ≤ 200 ∧ ((cHold (vw h) a2 (vw h 1 0) (vw h 1 0) ≠ a1 → P (-2) h) ∧ (cHold (vw h) a2 (vw h 1 0) (vw h 1 0) = a1 → ((vw h 5 a2 = (-1) → ((vw h 16 1 < 300 → ∀ (y56 : Int) (h_56 : aH), (wS h_56 ∧ RClo (vw h) a1 a2 a3 y56 (vw h_56)) → P y56 h_56) ∧ (300 ≤ vw h 16 1 → P (-3) h))) ∧ (vw h 5 a2 ≠ (-1) → P (-2) h)))))) ∧ (a3 ≠ 0 → P (-1) h)))))) ∧ (¬ (0 ≤ a3 ∧ a3 ≤ 7) → P (-1) h))))))) : Pt (n + 1) X zM157 0 [some (.ref 0), some (.int x1), some (.int x2), some (.int x3)] [] h (qI P) := by
  refine pt_1 (fun n d => r_aloadn gx157_0 rfl) ?_
  refine pt_d (pt_getR gx157_1 S tr_0_0 ?_)
  refine pt_d (pt_1 (fun n d => r_iloadn gx157_4 rfl) ?_)
  refine pt_d (pt_virt (as := [.int x1]) (r := []) gx157_5 rfl (show zmt[75]? = some zM75 from rfl) rfl rfl rfl rfl (c_75 S z1) (kqP (fun v2 h2 => ?_)))
  show Pt _ _ _ 8 _ [.int v2] _ _
  refine pt_d (pt_ifB_eq gx157_8 h2 (fun e3 => ?_) (fun e3 => ?_))
  · have H := H.1 e3
    refine pt_d (pt_iconst gx157_29 (fun v4 h4 => ?_))
    exact pt_d (pt_iret gx157_30 ⟨_, rfl, by rw [h4]; exact H⟩)
  · have H := H.2 e3
    refine pt_d (pt_1 (fun n d => r_aloadn gx157_11 rfl) ?_)
    refine pt_d (pt_getR gx157_12 S tr_0_0 ?_)
    refine pt_d (pt_1 (fun n d => r_iloadn gx157_15 rfl) ?_)
    refine pt_d (pt_virt (as := [.int x2]) (r := []) gx157_16 rfl (show zmt[77]? = some zM77 from rfl) rfl rfl rfl rfl (c_77 S z2) (kqP (fun v6 h6 => ?_)))
    show Pt _ _ _ 19 _ [.int v6] _ _
    refine pt_d (pt_ifB_eq gx157_19 h6 (fun e7 => ?_) (fun e7 => ?_))
    · have H := H.1 e7
      refine pt_d (pt_iconst gx157_29 (fun v8 h8 => ?_))
      exact pt_d (pt_iret gx157_30 ⟨_, rfl, by rw [h8]; exact H⟩)
    · have H := H.2 e7
      refine pt_d (pt_1 (fun n d => r_iloadn gx157_22 rfl) ?_)
      refine pt_d (pt_stat (as := [.int x3]) (r := []) gx157_23 rfl (show zmt[141]? = some zM141 from rfl) rfl rfl rfl rfl (c_141 S z3) (kqP (fun v9 h9 => ?_)))
      show Pt _ _ _ 26 _ [.int v9] _ _
      refine pt_d (pt_ifB_ne gx157_26 h9 (fun e10 => ?_) (fun e10 => ?_))
      · have H := H.1 e10
        refine pt_d (pt_1 (fun n d => r_aloadn gx157_31 rfl) ?_)
        refine pt_d (pt_getR gx157_32 S tr_0_0 ?_)
        refine pt_d (pt_getR gx157_35 S tr_1_7 ?_)
        refine pt_d (pt_1 (fun n d => r_iloadn gx157_38 rfl) ?_)
        refine pt_d (pt_iald (N' := 150) gx157_39 S tl_2 z2 (fun v13 p13 q13 h13 => ?_))
        have H := H p13 q13
        refine pt_d (pt_iconst gx157_40 (fun v14 h14 => ?_))
        refine pt_d (pt_icmp_ne gx157_41 h13 h14 (fun e15 => ?_) (fun e15 => ?_))
        · have H := H.1 e15
          refine pt_d (pt_1 (fun n d => r_aloadn gx157_50 rfl) ?_)
          refine pt_d (pt_getR gx157_51 S tr_0_0 ?_)
          refine pt_d (pt_1 (fun n d => r_iloadn gx157_54 rfl) ?_)
          refine pt_d (pt_1 (fun n d => r_aloadn gx157_55 rfl) ?_)
          refine pt_d (pt_getR gx157_56 S tr_0_0 ?_)
          refine pt_d (pt_getI (B := 0) gx157_59 S (fun v18 h18 => ?_))
          refine pt_d (pt_1 (fun n d => r_aloadn gx157_62 rfl) ?_)
          refine pt_d (pt_getR gx157_63 S tr_0_0 ?_)
          refine pt_d (pt_getI (B := 0) gx157_66 S (fun v20 h20 => ?_))
          obtain ⟨pr21, H⟩ := H
          refine pt_d (pt_virt (as := [.int x2, .int v18, .int v20]) (r := []) gx157_69 rfl (show zmt[86]? = some zM86 from rfl) rfl rfl rfl rfl (c_86 S z2 h18 h20 pr21) (kqP (fun v21 h21 => ?_)))
          show Pt _ _ _ 72 _ [.int v21] _ _
          refine pt_d (pt_1 (fun n d => r_iloadn gx157_72 rfl) ?_)
          refine pt_d (pt_icmp_ne gx157_73 h21 z1 (fun e22 => ?_) (fun e22 => ?_))
          · have H := H.1 e22
            refine pt_d (pt_bipush gx157_89 (fun v23 h23 => ?_))
            exact pt_d (pt_iret gx157_91 ⟨_, rfl, by rw [h23]; exact H⟩)
          · have H := H.2 e22
            refine pt_d (pt_1 (fun n d => r_aloadn gx157_76 rfl) ?_)
            refine pt_d (pt_getR gx157_77 S tr_0_0 ?_)
            refine pt_d (pt_getR gx157_80 S tr_1_10 ?_)
            refine pt_d (pt_1 (fun n d => r_iloadn gx157_83 rfl) ?_)
            refine pt_d (pt_iald (N' := 150) gx157_84 S tl_5 z2 (fun v26 p26 q26 h26 => ?_))
            refine pt_d (pt_iconst gx157_85 (fun v27 h27 => ?_))
            refine pt_d (pt_icmp_eq gx157_86 h26 h27 (fun e28 => ?_) (fun e28 => ?_))
            · have H := H.1 e28
              refine pt_d (pt_1 (fun n d => r_aloadn gx157_92 rfl) ?_)
              refine pt_d (pt_getR gx157_93 S tr_0_2 ?_)
              refine pt_d (pt_getI (B := 1) gx157_96 S (fun v30 h30 => ?_))
              refine pt_d (pt_sipush gx157_99 (fun v31 h31 => ?_))
              refine pt_d (pt_icmp_lt gx157_102 h30 h31 (fun e32 => ?_) (fun e32 => ?_))
              · have H := H.1 e32
                refine pt_d (pt_1 (fun n d => r_aloadn gx157_110 rfl) ?_)
                refine pt_d (pt_getR gx157_111 S tr_0_2 ?_)
                refine pt_d (pt_1 (fun n d => r_iloadn gx157_114 rfl) ?_)
                refine pt_d (pt_1 (fun n d => r_iloadn gx157_115 rfl) ?_)
                refine pt_d (pt_1 (fun n d => r_iloadn gx157_116 rfl) ?_)
                refine pt_d (pt_virt (as := [.int x1, .int x2, .int x3]) (r := []) gx157_117 rfl (show zmt[27]? = some zM27 from rfl) rfl rfl rfl rfl (c_27o S z1 z2 z3) (kqI (fun v34 y34 h_34 h34 P34 => ?_)))
                have S34 := P34.1
                have H := H y34 h_34 P34
                show Pt _ _ _ 120 _ [.int v34] _ _
                exact pt_d (pt_iret gx157_120 ⟨_, rfl, by rw [h34]; exact H⟩)
              · have H := H.2 e32
                refine pt_d (pt_bipush gx157_105 (fun v35 h35 => ?_))
                refine pt_d (pt_1 (fun n d => r_goto gx157_107) ?_)
                exact pt_d (pt_iret gx157_120 ⟨_, rfl, by rw [h35]; exact H⟩)
            · have H := H.2 e28
              refine pt_d (pt_bipush gx157_89 (fun v36 h36 => ?_))
              exact pt_d (pt_iret gx157_91 ⟨_, rfl, by rw [h36]; exact H⟩)
        · have H := H.2 e15
          refine pt_d (pt_1 (fun n d => r_iloadn gx157_44 rfl) ?_)
          refine pt_d (pt_if_eq gx157_45 z3 (fun e37 => ?_) (fun e37 => ?_))
          · have H := H.1 e37
            refine pt_d (pt_1 (fun n d => r_aloadn gx157_50 rfl) ?_)
            refine pt_d (pt_getR gx157_51 S tr_0_0 ?_)
            refine pt_d (pt_1 (fun n d => r_iloadn gx157_54 rfl) ?_)
            refine pt_d (pt_1 (fun n d => r_aloadn gx157_55 rfl) ?_)
            refine pt_d (pt_getR gx157_56 S tr_0_0 ?_)
            refine pt_d (pt_getI (B := 0) gx157_59 S (fun v40 h40 => ?_))
            refine pt_d (pt_1 (fun n d => r_aloadn gx157_62 rfl) ?_)
            refine pt_d (pt_getR gx157_63 S tr_0_0 ?_)
            refine pt_d (pt_getI (B := 0) gx157_66 S (fun v42 h42 => ?_))
            obtain ⟨pr43, H⟩ := H
            refine pt_d (pt_virt (as := [.int x2, .int v40, .int v42]) (r := []) gx157_69 rfl (show zmt[86]? = some zM86 from rfl) rfl rfl rfl rfl (c_86 S z2 h40 h42 pr43) (kqP (fun v43 h43 => ?_)))
            show Pt _ _ _ 72 _ [.int v43] _ _
            refine pt_d (pt_1 (fun n d => r_iloadn gx157_72 rfl) ?_)
            refine pt_d (pt_icmp_ne gx157_73 h43 z1 (fun e44 => ?_) (fun e44 => ?_))
            · have H := H.1 e44
              refine pt_d (pt_bipush gx157_89 (fun v45 h45 => ?_))
              exact pt_d (pt_iret gx157_91 ⟨_, rfl, by rw [h45]; exact H⟩)
            · have H := H.2 e44
              refine pt_d (pt_1 (fun n d => r_aloadn gx157_76 rfl) ?_)
              refine pt_d (pt_getR gx157_77 S tr_0_0 ?_)
              refine pt_d (pt_getR gx157_80 S tr_1_10 ?_)
              refine pt_d (pt_1 (fun n d => r_iloadn gx157_83 rfl) ?_)
              refine pt_d (pt_iald (N' := 150) gx157_84 S tl_5 z2 (fun v48 p48 q48 h48 => ?_))
              refine pt_d (pt_iconst gx157_85 (fun v49 h49 => ?_))
              refine pt_d (pt_icmp_eq gx157_86 h48 h49 (fun e50 => ?_) (fun e50 => ?_))
              · have H := H.1 e50
                refine pt_d (pt_1 (fun n d => r_aloadn gx157_92 rfl) ?_)
                refine pt_d (pt_getR gx157_93 S tr_0_2 ?_)
                refine pt_d (pt_getI (B := 1) gx157_96 S (fun v52 h52 => ?_))
                refine pt_d (pt_sipush gx157_99 (fun v53 h53 => ?_))
                refine pt_d (pt_icmp_lt gx157_102 h52 h53 (fun e54 => ?_) (fun e54 => ?_))
                · have H := H.1 e54
                  refine pt_d (pt_1 (fun n d => r_aloadn gx157_110 rfl) ?_)
                  refine pt_d (pt_getR gx157_111 S tr_0_2 ?_)
                  refine pt_d (pt_1 (fun n d => r_iloadn gx157_114 rfl) ?_)
                  refine pt_d (pt_1 (fun n d => r_iloadn gx157_115 rfl) ?_)
                  refine pt_d (pt_1 (fun n d => r_iloadn gx157_116 rfl) ?_)
                  refine pt_d (pt_virt (as := [.int x1, .int x2, .int x3]) (r := []) gx157_117 rfl (show zmt[27]? = some zM27 from rfl) rfl rfl rfl rfl (c_27o S z1 z2 z3) (kqI (fun v56 y56 h_56 h56 P56 => ?_)))
                  have S56 := P56.1
                  have H := H y56 h_56 P56
                  show Pt _ _ _ 120 _ [.int v56] _ _
                  exact pt_d (pt_iret gx157_120 ⟨_, rfl, by rw [h56]; exact H⟩)
                · have H := H.2 e54
                  refine pt_d (pt_bipush gx157_105 (fun v57 h57 => ?_))
                  refine pt_d (pt_1 (fun n d => r_goto gx157_107) ?_)
                  exact pt_d (pt_iret gx157_120 ⟨_, rfl, by rw [h57]; exact H⟩)
              · have H := H.2 e50
                refine pt_d (pt_bipush gx157_89 (fun v58 h58 => ?_))
                exact pt_d (pt_iret gx157_91 ⟨_, rfl, by rw [h58]; exact H⟩)
          · have H := H.2 e37
            refine pt_d (pt_iconst gx157_48 (fun v59 h59 => ?_))
            exact pt_d (pt_iret gx157_49 ⟨_, rfl, by rw [h59]; exact H⟩)
      · have H := H.2 e10
        refine pt_d (pt_iconst gx157_29 (fun v60 h60 => ?_))
        exact pt_d (pt_iret gx157_30 ⟨_, rfl, by rw [h60]; exact H⟩)
def R157o (V : vS) (f b c r : Int) (V' : vS) : Prop := (¬ ok157 V f b c ∧ r = -1 ∧ V' = V) ∨ (ok157 V f b c ∧ ¬ hd157 V f b ∧ r = -2 ∧ V' = V) ∨ (ok157 V f b c ∧ hd157 V f b ∧ 300 ≤ V 16 1 ∧ r = -3 ∧ V' = V) ∨ (ok157 V f b c ∧ hd157 V f b ∧ V 16 1 < 300 ∧ RClo V f b c r V')
theorem c_157o {n : Nat} {X : aX} {h : aH} {x1 x2 x3 : Int32} {a1 a2 a3 : Int} (S : wS h) (z1 : x1.toInt = a1) (z2 : x2.toInt = a2) (z3 : x3.toInt = a3) (hn : vw h 1 6 ≤ 200) : Pt n X zM157 0 [some (.ref 0), some (.int x1), some (.int x2), some (.int x3)] [] h (qI (fun y h' => R157o (vw h) a1 a2 a3 y (vw h'))) := by
  refine pt_d (e157_0 S z1 z2 z3 ⟨fun e => Or.inl ⟨fun q => e q.1, rfl, rfl⟩, fun e => ⟨fun e2 => Or.inl ⟨fun q => e2 q.2.1, rfl, rfl⟩, fun e2 => ⟨fun e3 p q => ⟨fun e4 => ⟨hn, ⟨fun e5 => Or.inr (Or.inl ⟨⟨e, e2, e3, fun z => absurd z e4⟩, fun z => e5 z.1, rfl, rfl⟩), fun e5 => ⟨fun e6 => ⟨fun e7 y g p => Or.inr (Or.inr (Or.inr ⟨⟨e, e2, e3, fun z => absurd z e4⟩, ⟨e5, e6⟩, e7, p.2⟩)), fun e7 => Or.inr (Or.inr (Or.inl ⟨⟨e, e2, e3, fun z => absurd z e4⟩, ⟨e5, e6⟩, e7, rfl, rfl⟩))⟩, fun e6 => Or.inr (Or.inl ⟨⟨e, e2, e3, fun z => absurd z e4⟩, fun z => e6 z.2, rfl, rfl⟩)⟩⟩⟩, fun e4 => ⟨fun e8 => ⟨hn, ⟨fun e5 => Or.inr (Or.inl ⟨⟨e, e2, e3, fun z => e8⟩, fun z => e5 z.1, rfl, rfl⟩), fun e5 => ⟨fun e6 => ⟨fun e7 y g p => Or.inr (Or.inr (Or.inr ⟨⟨e, e2, e3, fun z => e8⟩, ⟨e5, e6⟩, e7, p.2⟩)), fun e7 => Or.inr (Or.inr (Or.inl ⟨⟨e, e2, e3, fun z => e8⟩, ⟨e5, e6⟩, e7, rfl, rfl⟩))⟩, fun e6 => Or.inr (Or.inl ⟨⟨e, e2, e3, fun z => e8⟩, fun z => e6 z.2, rfl, rfl⟩)⟩⟩⟩, fun e8 => Or.inl ⟨fun q => e8 (q.2.2.2 e4), rfl, rfl⟩⟩⟩, fun e3 => Or.inl ⟨fun q => e3 q.2.2.1, rfl, rfl⟩⟩⟩⟩)
theorem o157 {V V' : vS} {f b c r : Int} (R : R157o V f b c r V') : R157 V f b c r V' := by
  rcases R with z | z | z | ⟨z1, z2, z3, z4⟩
  · exact Or.inl z
  · exact Or.inr (Or.inl z)
  · exact Or.inr (Or.inr (Or.inl z))
  · exact Or.inr (Or.inr (Or.inr ⟨z1, z2, z3, z4.1⟩))
def JDay (V : vS) : Prop := ∀ c, 0 ≤ V 20 c ∧ V 20 c ≤ V 1 0
theorem jo_13 {V V1 : vS} {f b c r : Int} (O : JOrd V) (D : JDay V) (d0 : 0 ≤ V 1 0) (N0 : 0 ≤ V 16 1 ∧ V 16 1 ≤ 300) (R : R157o V f b c r V1) : JOrd V1 ∧ JDay V1 := by
  rcases R with ⟨-, -, rfl⟩ | ⟨-, -, -, rfl⟩ | ⟨-, -, -, -, rfl⟩ | ⟨z1, z2, z3, z4, z5⟩
  · exact ⟨O, D⟩
  · exact ⟨O, D⟩
  · exact ⟨O, D⟩
  · rcases z4 with ⟨w, -⟩ | ⟨w0, w1, -, e⟩
    · omega
    · rw [w32_id (by omega) (by omega)] at e
      have e' : ∀ (c' : Nat) j, c' ≠ 21 → V1 c' j = up (clmV V f b c) 16 1 (V 16 1 + 1) c' j := e
      refine ⟨ord_i O N0.1 (fun d a z => (D d).2) e' (z5 z3), fun d => ?_⟩
      have t1 : V1 1 0 = V 1 0 := by
        rw [e' 1 0 (by decide), up_c (by decide)]
        unfold clmV
        rw [up_c (by decide), up_c (by decide), up_c (by decide), up_c (by decide)]
      have t20 : V1 20 d = if d = V 16 1 then V 1 0 else V 20 d := by
        rw [e' 20 d (by decide), up_c (by decide)]
        unfold clmV
        rw [up_p, up_c (by decide), up_c (by decide), up_c (by decide)]
      rw [t1, t20]
      split
      · exact ⟨d0, Int.le_refl _⟩
      · exact D d
end
section
-- ===== what calls keep =====
section PT9
variable {n : Nat} {X : aX} {M : aM} {Q : Option Value → aH → Prop} {pc len a b : Nat} {l : aL} {st r : List Value} {h : aH} {A B : Int}
theorem pt_putIh {ix o : Nat} {x : Int32} (hf : aF pc M.2.2.2.2.2.2.2 = some (pc, (.putfield ix), len, a, b)) (S : wS h) (ha : x.toInt = A) (k : ∀ h', wS h' → vw h' = up (vw h) o B A → hk h h' → Pt n X M (pc + 3) l r h' Q) (hB : ((b : Nat) : Int) = B := by rfl) (tn : tkN o b = true := by decide +kernel) : Pt (n + 1) X M pc l (.int x :: .ref o :: r) h Q := pt_s fun m hm d v h2 e => by
  obtain ⟨fs, e1, e2, e3, e4⟩ := i_put hf e
  exact k _ (wS_obj S e1 e2 (tkN_R tn)) (by rw [vw_obj e1 e3, ← hB, ← ha]; rfl) (hk_obj e1) m hm d v h2 e4
theorem pt_putRh {ix o x : Nat} (hf : aF pc M.2.2.2.2.2.2.2 = some (pc, (.putfield ix), len, a, b)) (S : wS h) (k : ∀ h', wS h' → vw h' = up (vw h) o B x → hk h h' → Pt n X M (pc + 3) l r h' Q) (hB : ((b : Nat) : Int) = B := by rfl) (tn : tkN o b = true := by decide +kernel) : Pt (n + 1) X M pc l (.ref x :: .ref o :: r) h Q := pt_s fun m hm d v h2 e => by
  obtain ⟨fs, e1, e2, e3, e4⟩ := i_put hf e
  exact k _ (wS_obj S e1 e2 (tkN_R tn)) (by rw [vw_obj e1 e3, ← hB]; rfl) (hk_obj e1) m hm d v h2 e4
theorem pt_iasth {o N : Nat} {N' : Int} {j x : Int32} (hf : aF pc M.2.2.2.2.2.2.2 = some (pc, .iastore, len, a, b)) (S : wS h) (tk : tkL o 0 N = true) (ha : j.toInt = A) (hb : x.toInt = B) (k : ∀ h', wS h' → 0 ≤ A → A < N' → vw h' = up (vw h) o A B → hk h h' → Pt n X M (pc + 1) l r h' Q) (hN : ((N : Nat) : Int) = N' := by rfl) : Pt (n + 1) X M pc l (.int x :: .int j :: .ref o :: r) h Q := pt_s fun m hm d v h2 e => by
  obtain ⟨N0, g, e1, e2, e3, e4⟩ := i_iast hf e
  obtain ⟨-, rfl⟩ := tk_n S tk e1
  exact k _ (wS_arr S e1) (by omega) (by omega) (vw_arr e1 (by omega) (vA_upd ha hb)) (hk_set e1) m hm d v h2 e4
theorem pt_zasth {o N : Nat} {N' : Int} {j x : Int32} (hf : aF pc M.2.2.2.2.2.2.2 = some (pc, .bastore, len, a, b)) (S : wS h) (tk : tkL o 2 N = true) (ha : j.toInt = A) (hb : x.toInt = B) (k : ∀ h', wS h' → 0 ≤ A → A < N' → vw h' = up (vw h) o A (bAnd B 1) → hk h h' → Pt n X M (pc + 1) l r h' Q) (hN : ((N : Nat) : Int) = N' := by rfl) : Pt (n + 1) X M pc l (.int x :: .int j :: .ref o :: r) h Q := pt_s fun m hm d v h2 e => by
  rcases i_bast hf e with ⟨N0, g, e1, e2, e3, e4⟩ | ⟨N0, g, e1, e2, e3, e4⟩
  · obtain ⟨-, rfl⟩ := tk_n S tk e1
    exact k _ (wS_arr S e1) (by omega) (by omega) (vw_arr e1 (by omega) (vA_upd ha (by subst hb; unfold bAnd; rw [oI]; rfl))) (hk_set e1) m hm d v h2 e4
  · obtain ⟨q, -⟩ := tk_n S tk e1
    omega
theorem pt_lasth {o N : Nat} {N' : Int} {j : Int32} {x : Int64} (hf : aF pc M.2.2.2.2.2.2.2 = some (pc, .lastore, len, a, b)) (S : wS h) (tk : tkL o 1 N = true) (ha : j.toInt = A) (hb : x.toInt = B) (k : ∀ h', wS h' → 0 ≤ A → A < N' → vw h' = up (vw h) o A B → hk h h' → Pt n X M (pc + 1) l r h' Q) (hN : ((N : Nat) : Int) = N' := by rfl) : Pt (n + 1) X M pc l (.long x :: .int j :: .ref o :: r) h Q := pt_s fun m hm d v h2 e => by
  obtain ⟨N0, g, e1, e2, e3, e4⟩ := i_last hf e
  obtain ⟨-, rfl⟩ := tk_n S tk e1
  exact k _ (wS_arr S e1) (by omega) (by omega) (vw_arr e1 (by omega) (by
    subst ha
    subst hb
    intro k
    unfold vA vp_updL
    dsimp only
    split
    · rfl
    · rfl)) (hk_set e1) m hm d v h2 e4
end PT9
theorem rOK_m {V W : vS} (A : agM V W) (h3 : ∀ (c : Nat) j, 103 ≤ c → c ≤ 110 → W c j = V c j) (e8 : W 72 38 = V 72 38) (e9 : W 72 39 = V 72 39) (R : rOK V) : rOK W := by
  intro z
  obtain ⟨a, b⟩ := R (e8.symm.trans z)
  rw [e9]
  refine ⟨fun c c0 cN => ?_, fun c c0 cN m y0 y1 => ?_⟩
  · rw [agM_19 A] at cN
    rw [h3 103 c (by decide) (by decide), a c c0 cN]
    exact (bI_c (mcn_m A c _)).symm
  · rw [agM_19 A] at cN
    rw [agM_x A 90 c (by decide) (by decide)] at y0 y1
    have r := b c c0 cN ((mcn_m A c _).mp m) y0 y1
    exact ⟨(h3 104 c (by decide) (by decide)).trans (r.1.trans (vG_m A _ c).symm), (h3 106 c (by decide) (by decide)).trans (r.2.1.trans (vB_m A _ c).symm), (h3 105 c (by decide) (by decide)).trans (r.2.2.trans (vF_m A _ c).symm)⟩
def sea (h : aH) (y : Int) (q : Nat) : Prop := 146 ≤ q ∧ slk (vw h) q ∧ vw h q 2 = y ∧ skd h q ∧ vw h q 5 ≤ 300 ∧ vw h q 4 ≤ stm (vw h) ∧ (vw h q 4 = stm (vw h) → scK (vw h) q y (vw h q 3))
def IV (h : aH) : Prop := pb (vw h) ∧ (∀ y, 0 ≤ y → y ≤ 9 → ∀ q : Nat, vw h 42 y = (q : Int) → sea h y q) ∧ (∀ y y', (0 ≤ y ∧ y ≤ 9) → (0 ≤ y' ∧ y' ≤ 9) → y ≠ y' → ∀ q q' : Nat, vw h 42 y = (q : Int) → vw h 42 y' = (q' : Int) → q + 7 < q' ∨ q' + 7 < q) ∧ q239 (vw h)
theorem stm_c {V W : vS} (h : ∀ (c : Nat) j, c < 33 → W c j = V c j) : stm W = stm V := by
  unfold stm
  rw [h 1 1 (by decide), h 1 5 (by decide), h 16 1 (by decide), h 16 2 (by decide), h 16 3 (by decide)]
-- a season whose own cells, and what it was made of, are as they were
theorem sea_c {h h' : aH} {y : Int} {q : Nat} (s : sea h y q) (K : hk h h') (e1 : ∀ (c : Nat) j, c < 33 → vw h' c j = vw h c j) (e3 : ∀ (c : Nat) j, q ≤ c → c ≤ q + 7 → vw h' c j = vw h c j) : sea h' y q := by
  obtain ⟨a, b, c, d, e, f, g⟩ := s
  have eq : ∀ j, vw h' q j = vw h q j := fun j => e3 q j (Nat.le_refl _) (by omega)
  refine ⟨a, slk_c b (fun j _ _ _ => eq j), by rw [eq]; exact c, skd_k K d, by rw [eq]; exact e, by rw [eq, stm_c e1]; exact f, fun z => ?_⟩
  rw [eq, stm_c e1] at z
  rw [eq]
  exact scK_c (g z) (fun c j z' => e1 c j (by omega)) (fun c j u v => e3 c j u (by omega))
theorem IV_w {h h' : aH} (I : IV h) (K : hk h h') (e1 : ∀ (c : Nat) j, c < 33 → vw h' c j = vw h c j) (e2 : ∀ j, vw h' 42 j = vw h 42 j) (e3 : ∀ (c : Nat) j, 146 ≤ c → vw h' c j = vw h c j) (e4 : ∀ (c : Nat) j, 72 < c → c ≤ 110 → vw h' c j = vw h c j) (e5 : vw h' 72 19 = vw h 72 19 ∧ vw h' 72 25 = vw h 72 25 ∧ vw h' 72 32 = vw h 72 32 ∧ vw h' 72 38 = vw h 72 38 ∧ vw h' 72 39 = vw h 72 39) : IV h' := by
  obtain ⟨a, b, c, ⟨d1, d2, d3, d4, d5⟩⟩ := I
  have A : agM (vw h) (vw h') := ⟨fun c j u v => e4 c j u (by omega), e5.1, e5.2.1, e5.2.2.1⟩
  refine ⟨pbK_c a e1, fun y y0 y9 q e => ?_, fun y y' hy hy' n q q' e e' => c y y' hy hy' n q q' ((e2 y).symm.trans e) ((e2 y').symm.trans e'), ?_⟩
  · have s := b y y0 y9 q ((e2 y).symm.trans e)
    have := s.1
    exact sea_c s K e1 (fun c j u _ => e3 c j (by omega))
  · refine ⟨by rw [e5.1]; exact d1, by rw [e5.2.1]; exact d2, by rw [e5.2.2.1]; exact d3, fun c u v => by rw [e4 87 c (by decide) (by decide)]; exact d4 c u v, rOK_m A (fun c j u v => e4 c j (by omega) v) e5.2.2.2.1 e5.2.2.2.2 d5⟩
def ivA (c : Nat) : Bool := Nat.ble 43 c && Nat.ble c 71 || Nat.ble 111 c && Nat.ble c 145
theorem IV_ua {h h' : aH} {c : Nat} {j v : Int} (I : IV h) (K : hk h h') (e : vw h' = up (vw h) c j v) (k : ivA c = true) : IV h' := by
  have r : 43 ≤ c ∧ c ≤ 71 ∨ 111 ≤ c ∧ c ≤ 145 := by
    unfold ivA at k
    simp only [Bool.or_eq_true, Bool.and_eq_true, Nat.ble_eq] at k
    exact k
  have g : ∀ (c' : Nat) j', c' ≠ c → vw h' c' j' = vw h c' j' := fun c' j' n => by rw [e, up_c n]
  exact IV_w I K (fun c' j' z => g c' j' (by omega)) (fun j' => g 42 j' (by omega)) (fun c' j' z => g c' j' (by omega)) (fun c' j' z z' => g c' j' (by omega)) ⟨g 72 _ (by omega), g 72 _ (by omega), g 72 _ (by omega), g 72 _ (by omega), g 72 _ (by omega)⟩
def ivF (c : Nat) (j : Int) : Bool := c == 33 || c == 41 || c == 48 || (c == 72 && j != 19 && j != 25 && j != 32 && j != 38 && j != 39)
theorem IV_uf {h h' : aH} {c : Nat} {j v : Int} (I : IV h) (K : hk h h') (e : vw h' = up (vw h) c j v) (k : ivF c j = true) : IV h' := by
  have r : (c = 33 ∨ c = 41 ∨ c = 48) ∨ (c = 72 ∧ j ≠ 19 ∧ j ≠ 25 ∧ j ≠ 32 ∧ j ≠ 38 ∧ j ≠ 39) := by
    unfold ivF at k
    simp only [Bool.or_eq_true, Bool.and_eq_true, beq_iff_eq, bne_iff_ne] at k
    omega
  have g : ∀ (c' : Nat) j', c' ≠ c → vw h' c' j' = vw h c' j' := fun c' j' n => by rw [e, up_c n]
  have g2 : ∀ j', (j' = 19 ∨ j' = 25 ∨ j' = 32 ∨ j' = 38 ∨ j' = 39) → vw h' 72 j' = vw h 72 j' := fun j' z => by
    by_cases w : c = 72
    · rw [e, up_j (by omega)]
    · exact g 72 j' (fun x => w x.symm)
  exact IV_w I K (fun c' j' z => g c' j' (by omega)) (fun j' => g 42 j' (by omega)) (fun c' j' z => g c' j' (by omega)) (fun c' j' z z' => g c' j' (by omega)) ⟨g2 _ (by omega), g2 _ (by omega), g2 _ (by omega), g2 _ (by omega), g2 _ (by omega)⟩

theorem IV_1 {h h' : aH} {y k : Int} {q : Nat} (I : IV h) (R : R1 h y k q h') : IV h' := by
  have I0 := I
  obtain ⟨a, b, c, ⟨d1, d2, d3, d4, d5⟩⟩ := I0
  obtain ⟨⟨hq, K, ⟨y0, y9⟩, D⟩, R⟩ := R
  rcases R with ⟨-, -, -, rfl⟩ | ⟨U, R97', ⟨L, U2, U42⟩, F⟩
  · exact I
  · obtain ⟨sc, fr, v4⟩ := scK_b hq R97' U2
    have e0 : ∀ (c : Nat) j, c < q ∨ q + 7 < c → (c ≠ 42 ∨ j ≠ y) → vw h' c j = vw h c j := fun c j z w => by
      rw [fr c j z]
      rcases F with ⟨-, rfl⟩ | ⟨-, -, f⟩
      · rfl
      · exact f c j (by omega) w
    have e1 : ∀ (c : Nat) j, c < 33 → vw h' c j = vw h c j := fun c j z => e0 c j (by omega) (Or.inl (by omega))
    have e42 : vw h' 42 y = (q : Int) := (fr 42 y (by omega)).trans U42
    have o42 : ∀ j, j ≠ y → vw h' 42 j = vw h 42 j := fun j z => e0 42 j (by omega) (Or.inr z)
    have e4 : ∀ (c : Nat) j, 72 ≤ c → c ≤ 110 → vw h' c j = vw h c j := fun c j z w => e0 c j (by omega) (Or.inl (by omega))
    -- another year's season lies elsewhere
    have away : ∀ y', 0 ≤ y' → y' ≤ 9 → y' ≠ y → ∀ q' : Nat, vw h' 42 y' = (q' : Int) → vw h 42 y' = (q' : Int) ∧ (q + 7 < q' ∨ q' + 7 < q) := fun y' u v w q' e => by
      have e' := (o42 y' w).symm.trans e
      refine ⟨e', ?_⟩
      rcases F with ⟨f, -⟩ | ⟨-, f, -⟩
      · exact c y y' ⟨y0, by omega⟩ ⟨u, v⟩ (fun z => w z.symm) q q' f e'
      · obtain ⟨-, -, -, ⟨-, -, -, t, x, s⟩, -⟩ := b y' u v q' e'
        have := (List.getElem?_eq_some_iff.mp s).1
        omega
    have st : stm (vw h') = stm (vw h) := stm_c e1
    have sl := R1_k (k := k) (q := q) (h' := h') ⟨y0, by omega⟩ ⟨a, fun u v q' e => by
      have s := b y u (by omega) q' e.symm
      exact ⟨s.1, s.2.1, s.2.2.1, s.2.2.2.1⟩⟩ (by
      by_cases z : vw h 42 y = (q : Int)
      · exact Or.inl (b y y0 (by omega) q z).2.2.2.2.1
      · exact Or.inr z) ⟨⟨hq, K, ⟨y0, y9⟩, D⟩, Or.inr ⟨U, R97', ⟨L, U2, U42⟩, F⟩⟩
    refine ⟨pbK_c a e1, fun y' u v q' e => ?_, fun y' y'' hy hy' n q' q'' e e' => ?_, ?_⟩
    · by_cases w : y' = y
      · rw [w, e42] at e
        have eq : q' = q := by omega
        rw [eq, w]
        exact ⟨hq, sl.1, sc.1.1, D, sl.2.1, by rw [v4, st]; exact Int.le_refl _, fun _ => by rw [sc.1.2]; exact sc⟩
      · obtain ⟨e', aw⟩ := away y' u v w q' e
        have s := b y' u v q' e'
        have := s.1
        exact sea_c s K e1 (fun c j g g' => e0 c j (by omega) (Or.inl (by omega)))
    · by_cases w : y' = y
      · by_cases w' : y'' = y
        · exact absurd (w.trans w'.symm) n
        · rw [w, e42] at e
          have := (away y'' hy'.1 hy'.2 w' q'' e').2
          omega
      · by_cases w' : y'' = y
        · rw [w', e42] at e'
          have := (away y' hy.1 hy.2 w q' e).2
          omega
        · exact c y' y'' hy hy' n q' q'' (away y' hy.1 hy.2 w q' e).1 (away y'' hy'.1 hy'.2 w' q'' e').1
    · have A : agM (vw h) (vw h') := ⟨fun c j g g' => e4 c j (by omega) (by omega), e4 72 19 (by decide) (by decide), e4 72 25 (by decide) (by decide), e4 72 32 (by decide) (by decide)⟩
      refine ⟨by rw [e4 72 19 (by decide) (by decide)]; exact d1, by rw [e4 72 25 (by decide) (by decide)]; exact d2, by rw [e4 72 32 (by decide) (by decide)]; exact d3, fun c u v => by rw [e4 87 c (by decide) (by decide)]; exact d4 c u v, rOK_m A (fun c j u v => e4 c j (by omega) v) (e4 72 38 (by decide) (by decide)) (e4 72 39 (by decide) (by decide)) d5⟩
theorem wk_1 {n : Nat} {X : aX} {h : aH} {x1 x2 : Int32} {a1 a2 : Int} (S : wS h) (z1 : x1.toInt = a1) (z2 : x2.toInt = a2) (I : IV h) : Pt n X zM1 0 [some (.ref 41), some (.int x1), some (.int x2), none, none] [] h (qR (fun _ h' => wS h' ∧ hk h h' ∧ IV h')) := by
  refine pt_q (c_1 S z1 z2 ⟨I.1, fun y0 y9 q e => ?_⟩) ?_
  · have s := I.2.1 a1 y0 (by omega) q e.symm
    exact ⟨s.1, s.2.1, s.2.2.1, s.2.2.2.1⟩
  · rintro v h' ⟨q, ev, S', R⟩
    exact ⟨q, ev, S', R.1.2.1, IV_1 I R⟩
end
