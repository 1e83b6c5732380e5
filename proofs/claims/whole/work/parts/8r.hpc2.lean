/-! ===== the class: heedPiece whole ===== -/
section
variable {d : Nat} {h : PzH} {Q : Option Value → PzH → Prop} {A : St} {l c p : Nat}
theorem OI_dl {k v : Nat} (I : OI A l c p) : OI (dlA A k v) l c p := by
  refine ⟨?_, LI_WL I.2 (fun _ _ z => z) (fun j hj z => ?_)⟩
  · obtain ⟨t, o2, o3, o4, o5, o6, o7, o8⟩ := I.1
    refine ⟨t, o2, o3, o4, o5, o6, fun j hj w hw => ?_, o8⟩
    have hw' : w ∈ upf (sL A) k ((sL A k).erase v) j := hw
    by_cases e : j = k
    · subst e
      rw [upf_s] at hw'
      exact o7 j hj w (List.mem_of_mem_erase hw')
    · rw [upf_n e] at hw'
      exact o7 j hj w hw'
  · by_cases e : j = k
    · subst e
      rw [upf_s, z]
      rfl
    · rw [upf_n e]
      exact z
set_option maxHeartbeats 400000 in
theorem c_heedPiece (R : RC h A) (I : OI A l c p) {a b : Nat} {w m : List Int8} (ha : a < 4) (hb : b < 5) (hab : a ≠ b) (hj : sB A 23 (5 * a + b) ≠ 0) (M : ROW h 133 134 104 (w ++ m)) (hw : w.length = 4) (hm : 10 ≤ m.length ∧ m.length ≤ 73) (K : ∀ h', HC h h' → RC h' (givC A a b l c p m).2 → Q (some (.int (givC A a b l c p m).1)) h') : pz_M (d + 5) mX0_heedPiece [.ref 132, .ref (36 + 4 * a), .ref (lkA (5 * a + b))] h Q := by
  obtain ⟨a1, a2, a3, a4, a5, a6, a7, a8⟩ := ACT_of R
  obtain ⟨⟨k1, k2, k3, k4, k5⟩, L⟩ := LN_of R (show a < 5 by omega) hb hab
  obtain ⟨Y, P1, Y4, Yv, Yf⟩ := L.2.2.2.2.2.2.2.2.2.2.2.1
  have hth : sB A 18 a ≠ 0 := by
    rcases ((I.2.1 a b (by omega) hb).1 hj).2.1 with z | z
    · omega
    · exact z
  have t6 := I.1.1.2.2.2.2.2.1
  have t5 := I.1.1.2.2.2.2.1
  have t4 := I.1.1.2.2.2.1
  have lin := lkA_in (k := 5 * a + b) (by omega) (by omega)
  unfold givC at K
  cases es : sltO Y l c p m with
  | none =>
    have no : ∀ j, j < Y.length → ¬ gvP l c p m (Y.getD j 0) := by
      intro j hj q
      have : ∀ n, (∀ i, i < n → ¬ gvP l c p m (Y.getD i 0)) ∨ ∃ i, i < n ∧ gvP l c p m (Y.getD i 0) ∧ ∀ i', i' < i → ¬ gvP l c p m (Y.getD i' 0) := by
        intro n
        induction n with
        | zero => exact Or.inl (fun i hi => by omega)
        | succ n ih =>
          rcases ih with z | ⟨i, i1, i2, i3⟩
          · by_cases y : gvP l c p m (Y.getD n 0)
            · exact Or.inr ⟨n, by omega, y, z⟩
            · refine Or.inl (fun i hi => ?_)
              by_cases e : i = n
              · subst e; exact y
              · exact z i (by omega)
          · exact Or.inr ⟨i, by omega, i2, i3⟩
      rcases this Y.length with z | ⟨i, i1, i2, i3⟩
      · exact z j hj q
      · have := fstN_some (f := fun j => gvP l c p m (Y.getD j 0)) i2 i3 _ i1
        unfold sltO at es
        rw [this] at es
        exact absurd es (by simp)
    have en : gvF (sL A (5 * a + b)) l c p m = none := by
      refine gvF_none (fun v hv => ?_)
      obtain ⟨i, i1, i2⟩ := List.mem_iff_getElem.mp (P1.mem_iff.mpr hv)
      have := no i i1
      rw [show Y.getD i 0 = v by simp [List.getD, i1, i2]] at this
      exact this
    rw [en] at K
    obtain ⟨⟨c1, c2, c3, c4, c5⟩, CRa⟩ := CL_of R ha
    obtain ⟨_, _, _, _, _, _, d7⟩ := CRa.2.2 hth
    simp only [enX0_heedPiece, uX0_heedPiece_0, uX0_heedPiece_0o, uX0_heedPiece_0f, uX0_heedPiece_1, uX0_heedPiece_1o, uX0_heedPiece_1f, uX0_heedPiece_2, uX0_heedPiece_2o, uX0_heedPiece_2f, uX0_heedPiece_3, uX0_heedPiece_6, uX0_heedPiece_9, uX0_heedPiece_10, uX0_heedPiece_11, uX0_heedPiece_12, uX0_heedPiece_15, uX0_heedPiece_15o, uX0_heedPiece_15f, uX0_heedPiece_16, uX0_heedPiece_17, uX0_heedPiece_20, uX0_heedPiece_21, uX0_heedPiece_22, uX0_heedPiece_25, uX0_heedPiece_26, uX0_heedPiece_27, uX0_heedPiece_28, uX0_heedPiece_30, uX0_heedPiece_31, uX0_heedPiece_33, uX0_heedPiece_34, uX0_heedPiece_36, uX0_heedPiece_37, uX0_heedPiece_39, uX0_heedPiece_39o, uX0_heedPiece_39f, uX0_heedPiece_40, uX0_heedPiece_43, uX0_heedPiece_46, uX0_heedPiece_46o, uX0_heedPiece_48, uX0_heedPiece_48o, uX0_heedPiece_48f, uX0_heedPiece_50, uX0_heedPiece_52, uX0_heedPiece_53, uX0_heedPiece_56, uX0_heedPiece_59, uX0_heedPiece_60, uX0_heedPiece_61, uX0_heedPiece_61o, uX0_heedPiece_61f, uX0_heedPiece_62, uX0_heedPiece_63, uX0_heedPiece_66, uX0_heedPiece_67, uX0_heedPiece_68, uX0_heedPiece_71, uX0_heedPiece_71o, uX0_heedPiece_71f, uX0_heedPiece_72, uX0_heedPiece_75, uX0_heedPiece_77, uX0_heedPiece_78, uX0_heedPiece_79, uX0_heedPiece_80, uX0_heedPiece_82, uX0_heedPiece_83, uX0_heedPiece_84, uX0_heedPiece_85, uX0_heedPiece_85o, uX0_heedPiece_85f, uX0_heedPiece_86, uX0_heedPiece_86o, uX0_heedPiece_86f, uX0_heedPiece_87, uX0_heedPiece_87o, uX0_heedPiece_87f, uX0_heedPiece_89, uX0_heedPiece_91, uX0_heedPiece_94, uX0_heedPiece_96, uX0_heedPiece_98, uX0_heedPiece_99, uX0_heedPiece_100, uX0_heedPiece_103, uX0_heedPiece_103o, uX0_heedPiece_103f, uX0_heedPiece_104, uX0_heedPiece_107, uX0_heedPiece_109, uX0_heedPiece_110, uX0_heedPiece_110o, uX0_heedPiece_110f, uX0_heedPiece_112, uX0_heedPiece_114, uX0_heedPiece_117, uX0_heedPiece_120, uX0_heedPiece_121, uX0_heedPiece_122, uX0_heedPiece_122o, uX0_heedPiece_122f, uX0_heedPiece_123, uX0_heedPiece_126, uX0_heedPiece_126o, uX0_heedPiece_126f, uX0_heedPiece_127, uX0_heedPiece_130, uX0_heedPiece_130o, uX0_heedPiece_130f, uX0_heedPiece_132, uX0_heedPiece_134, uX0_heedPiece_137, uX0_heedPiece_137o, uX0_heedPiece_137f, uX0_heedPiece_139, uX0_heedPiece_141, uX0_heedPiece_144, uX0_heedPiece_147, uX0_heedPiece_147o, uX0_heedPiece_147f, uX0_heedPiece_148, uX0_heedPiece_151, uX0_heedPiece_151o, uX0_heedPiece_151f, uX0_heedPiece_153, uX0_heedPiece_156, uX0_heedPiece_158, uX0_heedPiece_160, uX0_heedPiece_161, uX0_heedPiece_164, uX0_heedPiece_167, uX0_heedPiece_167o, uX0_heedPiece_167f, uX0_heedPiece_168, uX0_heedPiece_171, uX0_heedPiece_173, uX0_heedPiece_174, uX0_heedPiece_175, uX0_heedPiece_175o, uX0_heedPiece_175f, uX0_heedPiece_176, uX0_heedPiece_177, uX0_heedPiece_180, uX0_heedPiece_181, uX0_heedPiece_182, uX0_heedPiece_185, uX0_heedPiece_187, uX0_heedPiece_188, uX0_heedPiece_188o, uX0_heedPiece_188f, uX0_heedPiece_189, uX0_heedPiece_190, uX0_heedPiece_193, uX0_heedPiece_194, uX0_heedPiece_196, uX0_heedPiece_197, uX0_heedPiece_198, uX0_heedPiece_201, uX0_heedPiece_201o, uX0_heedPiece_201f, uX0_heedPiece_202, uX0_heedPiece_204, uX0_heedPiece_207, uX0_heedPiece_208, uX0_heedPiece_212, uX0_heedPiece_213, uX0_heedPiece_216, uX0_heedPiece_216o, uX0_heedPiece_216f, uX0_heedPiece_217, uX0_heedPiece_220, uX0_heedPiece_220o, uX0_heedPiece_220f, uX0_heedPiece_221, uX0_heedPiece_224, uX0_heedPiece_226, uX0_heedPiece_229, uX0_heedPiece_229o, uX0_heedPiece_231, uX0_heedPiece_231o, uX0_heedPiece_231f, uX0_heedPiece_233, uX0_heedPiece_233a, uX0_heedPiece_236, uX0_heedPiece_236o, uX0_heedPiece_236f, uX0_heedPiece_238, uX0_heedPiece_241, uX0_heedPiece_244, uX0_heedPiece_244o, uX0_heedPiece_244f, uX0_heedPiece_245, uX0_heedPiece_248, uX0_heedPiece_248o, uX0_heedPiece_248f, uX0_heedPiece_250, uX0_heedPiece_250o, uX0_heedPiece_250f, uX0_heedPiece_251, uX0_heedPiece_254, uX0_heedPiece_257, uX0_heedPiece_260, uX0_heedPiece_263, uX0_heedPiece_264, pq_C_sI, pq_C_sJ, pq_C_sR, pq_C_sA, pq_L_sI, pq_L_sJ, pq_L_sR, pq_L_sA, pq_I_sI, pq_I_sJ, pq_I_sR, pq_I_sA, pq_J_sI, pq_J_sJ, pq_J_sR, pq_J_sA, pq_R_sI, pq_R_sJ, pq_R_sR, pq_R_sA, pq_N_sI, pq_N_sJ, pq_N_sR, pq_N_sA, pq_S_sI, pq_S_sJ, pq_S_sR, pq_S_sA, pz_rf_s, pz_cut_i, pz_cut_r, pz_cut_n, pz_cut_f, pz_cut_u, pz_cut_o, true_and, and_true, true_or, or_true, Option.toList_some, Option.toList_none, List.cons_append, List.nil_append, Nat.add_left_cancel_iff, Nat.left_eq_add, Nat.add_eq_left, Nat.reduceEqDiff, if_true, if_false, ite_true, ite_false, false_and, and_false, false_or, or_false, reduceIte, reduceCtorEq, and_self, z_4, z_5, z_7, z_8, z_10, z_16, z_20, z_64, not_false_eq_true, a1, k1, c_slot R I ha hb hab M hw hm P1 Y4 Yv Yf, es, show kyOf none = -1 from rfl, c_takeNone k1, c1, d7]
    exact K _ (HC_HF (cs := [36 + 4 * a]) (HF_sI (by simp)) (fun x hx => by simp at hx; omega)) (RC_cnt (k := a) (i := 4) R ha (by decide))
  | some j =>
    obtain ⟨j1, j2, _⟩ := fstN_sp (f := fun j => gvP l c p m (Y.getD j 0)) _ es
    have hmem : Y.getD j 0 ∈ Y := by
      have : Y.getD j 0 = Y[j] := by simp [List.getD, j1]
      rw [this]
      exact List.getElem_mem j1
    have hv := Yv _ hmem
    have hmem' := P1.mem_iff.mp hmem
    obtain ⟨v1, v2⟩ := I.1.2.2.2.2.2.2.1 (5 * a + b) (by omega) _ hmem'
    rw [gvF_some hmem' j2] at K
    dsimp only at K
    simp only [enX0_heedPiece, uX0_heedPiece_0, uX0_heedPiece_0o, uX0_heedPiece_0f, uX0_heedPiece_1, uX0_heedPiece_1o, uX0_heedPiece_1f, uX0_heedPiece_2, uX0_heedPiece_2o, uX0_heedPiece_2f, uX0_heedPiece_3, uX0_heedPiece_6, uX0_heedPiece_9, uX0_heedPiece_10, uX0_heedPiece_11, uX0_heedPiece_12, uX0_heedPiece_15, uX0_heedPiece_15o, uX0_heedPiece_15f, uX0_heedPiece_16, uX0_heedPiece_17, uX0_heedPiece_20, uX0_heedPiece_21, uX0_heedPiece_22, uX0_heedPiece_25, uX0_heedPiece_26, uX0_heedPiece_27, uX0_heedPiece_28, uX0_heedPiece_30, uX0_heedPiece_31, uX0_heedPiece_33, uX0_heedPiece_34, uX0_heedPiece_36, uX0_heedPiece_37, uX0_heedPiece_39, uX0_heedPiece_39o, uX0_heedPiece_39f, uX0_heedPiece_40, uX0_heedPiece_43, uX0_heedPiece_46, uX0_heedPiece_46o, uX0_heedPiece_48, uX0_heedPiece_48o, uX0_heedPiece_48f, uX0_heedPiece_50, uX0_heedPiece_52, uX0_heedPiece_53, uX0_heedPiece_56, uX0_heedPiece_59, uX0_heedPiece_60, uX0_heedPiece_61, uX0_heedPiece_61o, uX0_heedPiece_61f, uX0_heedPiece_62, uX0_heedPiece_63, uX0_heedPiece_66, uX0_heedPiece_67, uX0_heedPiece_68, uX0_heedPiece_71, uX0_heedPiece_71o, uX0_heedPiece_71f, uX0_heedPiece_72, uX0_heedPiece_75, uX0_heedPiece_77, uX0_heedPiece_78, uX0_heedPiece_79, uX0_heedPiece_80, uX0_heedPiece_82, uX0_heedPiece_83, uX0_heedPiece_84, uX0_heedPiece_85, uX0_heedPiece_85o, uX0_heedPiece_85f, uX0_heedPiece_86, uX0_heedPiece_86o, uX0_heedPiece_86f, uX0_heedPiece_87, uX0_heedPiece_87o, uX0_heedPiece_87f, uX0_heedPiece_89, uX0_heedPiece_91, uX0_heedPiece_94, uX0_heedPiece_96, uX0_heedPiece_98, uX0_heedPiece_99, uX0_heedPiece_100, uX0_heedPiece_103, uX0_heedPiece_103o, uX0_heedPiece_103f, uX0_heedPiece_104, uX0_heedPiece_107, uX0_heedPiece_109, uX0_heedPiece_110, uX0_heedPiece_110o, uX0_heedPiece_110f, uX0_heedPiece_112, uX0_heedPiece_114, uX0_heedPiece_117, uX0_heedPiece_120, uX0_heedPiece_121, uX0_heedPiece_122, uX0_heedPiece_122o, uX0_heedPiece_122f, uX0_heedPiece_123, uX0_heedPiece_126, uX0_heedPiece_126o, uX0_heedPiece_126f, uX0_heedPiece_127, uX0_heedPiece_130, uX0_heedPiece_130o, uX0_heedPiece_130f, uX0_heedPiece_132, uX0_heedPiece_134, uX0_heedPiece_137, uX0_heedPiece_137o, uX0_heedPiece_137f, uX0_heedPiece_139, uX0_heedPiece_141, uX0_heedPiece_144, uX0_heedPiece_147, uX0_heedPiece_147o, uX0_heedPiece_147f, uX0_heedPiece_148, uX0_heedPiece_151, uX0_heedPiece_151o, uX0_heedPiece_151f, uX0_heedPiece_153, uX0_heedPiece_156, uX0_heedPiece_158, uX0_heedPiece_160, uX0_heedPiece_161, uX0_heedPiece_164, uX0_heedPiece_167, uX0_heedPiece_167o, uX0_heedPiece_167f, uX0_heedPiece_168, uX0_heedPiece_171, uX0_heedPiece_173, uX0_heedPiece_174, uX0_heedPiece_175, uX0_heedPiece_175o, uX0_heedPiece_175f, uX0_heedPiece_176, uX0_heedPiece_177, uX0_heedPiece_180, uX0_heedPiece_181, uX0_heedPiece_182, uX0_heedPiece_185, uX0_heedPiece_187, uX0_heedPiece_188, uX0_heedPiece_188o, uX0_heedPiece_188f, uX0_heedPiece_189, uX0_heedPiece_190, uX0_heedPiece_193, uX0_heedPiece_194, uX0_heedPiece_196, uX0_heedPiece_197, uX0_heedPiece_198, uX0_heedPiece_201, uX0_heedPiece_201o, uX0_heedPiece_201f, uX0_heedPiece_202, uX0_heedPiece_204, uX0_heedPiece_207, uX0_heedPiece_208, uX0_heedPiece_212, uX0_heedPiece_213, uX0_heedPiece_216, uX0_heedPiece_216o, uX0_heedPiece_216f, uX0_heedPiece_217, uX0_heedPiece_220, uX0_heedPiece_220o, uX0_heedPiece_220f, uX0_heedPiece_221, uX0_heedPiece_224, uX0_heedPiece_226, uX0_heedPiece_229, uX0_heedPiece_229o, uX0_heedPiece_231, uX0_heedPiece_231o, uX0_heedPiece_231f, uX0_heedPiece_233, uX0_heedPiece_233a, uX0_heedPiece_236, uX0_heedPiece_236o, uX0_heedPiece_236f, uX0_heedPiece_238, uX0_heedPiece_241, uX0_heedPiece_244, uX0_heedPiece_244o, uX0_heedPiece_244f, uX0_heedPiece_245, uX0_heedPiece_248, uX0_heedPiece_248o, uX0_heedPiece_248f, uX0_heedPiece_250, uX0_heedPiece_250o, uX0_heedPiece_250f, uX0_heedPiece_251, uX0_heedPiece_254, uX0_heedPiece_257, uX0_heedPiece_260, uX0_heedPiece_263, uX0_heedPiece_264, pq_C_sI, pq_C_sJ, pq_C_sR, pq_C_sA, pq_L_sI, pq_L_sJ, pq_L_sR, pq_L_sA, pq_I_sI, pq_I_sJ, pq_I_sR, pq_I_sA, pq_J_sI, pq_J_sJ, pq_J_sR, pq_J_sA, pq_R_sI, pq_R_sJ, pq_R_sR, pq_R_sA, pq_N_sI, pq_N_sJ, pq_N_sR, pq_N_sA, pq_S_sI, pq_S_sJ, pq_S_sR, pq_S_sA, pz_rf_s, pz_cut_i, pz_cut_r, pz_cut_n, pz_cut_f, pz_cut_u, pz_cut_o, true_and, and_true, true_or, or_true, Option.toList_some, Option.toList_none, List.cons_append, List.nil_append, Nat.add_left_cancel_iff, Nat.left_eq_add, Nat.add_eq_left, Nat.reduceEqDiff, if_true, if_false, ite_true, ite_false, false_and, and_false, false_or, or_false, reduceIte, reduceCtorEq, and_self, z_4, z_5, z_7, z_8, z_10, z_16, z_20, z_64, not_false_eq_true, a1, k1, c_slot R I ha hb hab M hw hm P1 Y4 Yv Yf, es, show kyOf (some j) = nI j from rfl]
    refine c_takeAsked R (show a < 5 by omega) hb hab P1 Y4 Yv Yf j1 (fun h1 F1 R1 => ?_)
    have H1 : HC h h1 := HC_HF F1 (fun x hx => by rw [lkC_m] at hx; omega)
    have I1 := OI_dl (k := 5 * a + b) (v := Y.getD j 0) I
    have I5 := OI_gv1 (m := m) I ha hmem' hb
    have M1 : ROW h1 133 134 104 (w ++ m) := ROW_fr M F1 (fun z => by rw [lkC_m] at z; omega) (fun z => by rw [lkC_m] at z; omega)
    have j2' : gvP l c p m (Y.getD j 0) := j2
    generalize Y.getD j 0 = v at *
    obtain ⟨u1, u2, u3, u4⟩ := TN_i I.1.1 v1
    have hbs := j2'.2.2
    have hwl : v / 16 * c + 64 * (v % 16) + (m.length - 9) ≤ l := by
      unfold bsz at hbs
      split at hbs <;> omega
    have hD := I.1.2.2.2.1 a ha hth
    obtain ⟨b1, b2, b3, b4, b5, b6, b7, b8⟩ := ACT_of R1
    obtain ⟨⟨c1, c2, c3, c4, c5⟩, CR1⟩ := CL_of R1 ha
    obtain ⟨_, _, cb, d4, _⟩ := CR1.2.2 hth
    have d4' : pz_I h1 (36 + 4 * a) 4 = sB A 22 (5 * a + 1) := d4
    obtain ⟨t, ht, tr, tc, T⟩ := TS_of R1
    have n1 := R1.1.2.2.2.2.2.1.1
    have e39 : 36 + 4 * a + 3 = 39 + 4 * a := by omega
    rw [e39] at c3 c4 c5
    have e16 : (16 : Int32) = nI 16 := rfl
    have ed : nI v / 16 = nI (v / 16) := by rw [e16, pk_div (by omega) (by decide) (by decide)]
    have er : nI v - nI (v / 16) * 16 = nI (v % 16) := by rw [e16, pk_mul, pk_remd]
    have e64 : (64 : Int32) * nI (v % 16) = nI (64 * (v % 16)) := pk_mul 64 _
    have hin : pz_in (nI (v / 16)) 64 = true := pz_in_nI (by omega) (by decide)
    have hcl := nI_clamp (show v / 16 < 2 ^ 31 by omega)
    have ip : ∀ {Q : Option Value → PzH → Prop}, pz_M (d + 4) mX8_isPiece [.ref t, .long (nI (v / 16)).toInt64] h1 Q ↔ Q (some (.int 1)) h1 := fun {Q} => by
      rw [nI_l (by omega), c_isPiece tc T I1.1.1 (by omega), if_pos v1]
    have ne : ¬ nI v = -1 := fun z => by
      have z1 := congrArg Int32.toInt z
      rw [nI_toInt (by omega)] at z1
      have : (-1 : Int32).toInt = -1 := by decide
      omega
    have n39 : ¬ 39 + 4 * a = 36 + 4 * a := by omega
    simp only [enX0_heedPiece, uX0_heedPiece_0, uX0_heedPiece_0o, uX0_heedPiece_0f, uX0_heedPiece_1, uX0_heedPiece_1o, uX0_heedPiece_1f, uX0_heedPiece_2, uX0_heedPiece_2o, uX0_heedPiece_2f, uX0_heedPiece_3, uX0_heedPiece_6, uX0_heedPiece_9, uX0_heedPiece_10, uX0_heedPiece_11, uX0_heedPiece_12, uX0_heedPiece_15, uX0_heedPiece_15o, uX0_heedPiece_15f, uX0_heedPiece_16, uX0_heedPiece_17, uX0_heedPiece_20, uX0_heedPiece_21, uX0_heedPiece_22, uX0_heedPiece_25, uX0_heedPiece_26, uX0_heedPiece_27, uX0_heedPiece_28, uX0_heedPiece_30, uX0_heedPiece_31, uX0_heedPiece_33, uX0_heedPiece_34, uX0_heedPiece_36, uX0_heedPiece_37, uX0_heedPiece_39, uX0_heedPiece_39o, uX0_heedPiece_39f, uX0_heedPiece_40, uX0_heedPiece_43, uX0_heedPiece_46, uX0_heedPiece_46o, uX0_heedPiece_48, uX0_heedPiece_48o, uX0_heedPiece_48f, uX0_heedPiece_50, uX0_heedPiece_52, uX0_heedPiece_53, uX0_heedPiece_56, uX0_heedPiece_59, uX0_heedPiece_60, uX0_heedPiece_61, uX0_heedPiece_61o, uX0_heedPiece_61f, uX0_heedPiece_62, uX0_heedPiece_63, uX0_heedPiece_66, uX0_heedPiece_67, uX0_heedPiece_68, uX0_heedPiece_71, uX0_heedPiece_71o, uX0_heedPiece_71f, uX0_heedPiece_72, uX0_heedPiece_75, uX0_heedPiece_77, uX0_heedPiece_78, uX0_heedPiece_79, uX0_heedPiece_80, uX0_heedPiece_82, uX0_heedPiece_83, uX0_heedPiece_84, uX0_heedPiece_85, uX0_heedPiece_85o, uX0_heedPiece_85f, uX0_heedPiece_86, uX0_heedPiece_86o, uX0_heedPiece_86f, uX0_heedPiece_87, uX0_heedPiece_87o, uX0_heedPiece_87f, uX0_heedPiece_89, uX0_heedPiece_91, uX0_heedPiece_94, uX0_heedPiece_96, uX0_heedPiece_98, uX0_heedPiece_99, uX0_heedPiece_100, uX0_heedPiece_103, uX0_heedPiece_103o, uX0_heedPiece_103f, uX0_heedPiece_104, uX0_heedPiece_107, uX0_heedPiece_109, uX0_heedPiece_110, uX0_heedPiece_110o, uX0_heedPiece_110f, uX0_heedPiece_112, uX0_heedPiece_114, uX0_heedPiece_117, uX0_heedPiece_120, uX0_heedPiece_121, uX0_heedPiece_122, uX0_heedPiece_122o, uX0_heedPiece_122f, uX0_heedPiece_123, uX0_heedPiece_126, uX0_heedPiece_126o, uX0_heedPiece_126f, uX0_heedPiece_127, uX0_heedPiece_130, uX0_heedPiece_130o, uX0_heedPiece_130f, uX0_heedPiece_132, uX0_heedPiece_134, uX0_heedPiece_137, uX0_heedPiece_137o, uX0_heedPiece_137f, uX0_heedPiece_139, uX0_heedPiece_141, uX0_heedPiece_144, uX0_heedPiece_147, uX0_heedPiece_147o, uX0_heedPiece_147f, uX0_heedPiece_148, uX0_heedPiece_151, uX0_heedPiece_151o, uX0_heedPiece_151f, uX0_heedPiece_153, uX0_heedPiece_156, uX0_heedPiece_158, uX0_heedPiece_160, uX0_heedPiece_161, uX0_heedPiece_164, uX0_heedPiece_167, uX0_heedPiece_167o, uX0_heedPiece_167f, uX0_heedPiece_168, uX0_heedPiece_171, uX0_heedPiece_173, uX0_heedPiece_174, uX0_heedPiece_175, uX0_heedPiece_175o, uX0_heedPiece_175f, uX0_heedPiece_176, uX0_heedPiece_177, uX0_heedPiece_180, uX0_heedPiece_181, uX0_heedPiece_182, uX0_heedPiece_185, uX0_heedPiece_187, uX0_heedPiece_188, uX0_heedPiece_188o, uX0_heedPiece_188f, uX0_heedPiece_189, uX0_heedPiece_190, uX0_heedPiece_193, uX0_heedPiece_194, uX0_heedPiece_196, uX0_heedPiece_197, uX0_heedPiece_198, uX0_heedPiece_201, uX0_heedPiece_201o, uX0_heedPiece_201f, uX0_heedPiece_202, uX0_heedPiece_204, uX0_heedPiece_207, uX0_heedPiece_208, uX0_heedPiece_212, uX0_heedPiece_213, uX0_heedPiece_216, uX0_heedPiece_216o, uX0_heedPiece_216f, uX0_heedPiece_217, uX0_heedPiece_220, uX0_heedPiece_220o, uX0_heedPiece_220f, uX0_heedPiece_221, uX0_heedPiece_224, uX0_heedPiece_226, uX0_heedPiece_229, uX0_heedPiece_229o, uX0_heedPiece_231, uX0_heedPiece_231o, uX0_heedPiece_231f, uX0_heedPiece_233, uX0_heedPiece_233a, uX0_heedPiece_236, uX0_heedPiece_236o, uX0_heedPiece_236f, uX0_heedPiece_238, uX0_heedPiece_241, uX0_heedPiece_244, uX0_heedPiece_244o, uX0_heedPiece_244f, uX0_heedPiece_245, uX0_heedPiece_248, uX0_heedPiece_248o, uX0_heedPiece_248f, uX0_heedPiece_250, uX0_heedPiece_250o, uX0_heedPiece_250f, uX0_heedPiece_251, uX0_heedPiece_254, uX0_heedPiece_257, uX0_heedPiece_260, uX0_heedPiece_263, uX0_heedPiece_264, pq_C_sI, pq_C_sJ, pq_C_sR, pq_C_sA, pq_L_sI, pq_L_sJ, pq_L_sR, pq_L_sA, pq_I_sI, pq_I_sJ, pq_I_sR, pq_I_sA, pq_J_sI, pq_J_sJ, pq_J_sR, pq_J_sA, pq_R_sI, pq_R_sJ, pq_R_sR, pq_R_sA, pq_N_sI, pq_N_sJ, pq_N_sR, pq_N_sA, pq_S_sI, pq_S_sJ, pq_S_sR, pq_S_sA, pz_rf_s, pz_cut_i, pz_cut_r, pz_cut_n, pz_cut_f, pz_cut_u, pz_cut_o, true_and, and_true, true_or, or_true, Option.toList_some, Option.toList_none, List.cons_append, List.nil_append, Nat.add_left_cancel_iff, Nat.left_eq_add, Nat.add_eq_left, Nat.reduceEqDiff, if_true, if_false, ite_true, ite_false, false_and, and_false, false_or, or_false, reduceIte, reduceCtorEq, and_self, z_4, z_5, z_7, z_8, z_10, z_16, z_20, z_64, not_false_eq_true, ne, b1, b2, n1, tr, tc, ed, er, ip, show ¬ (1 : Int32) = 0 by decide, c1, c3, c4, c5, d4', hin, hcl, n39]
    have R2 := RC_cnt (k := a) (i := 1) (v := sB A 22 (5 * a + 1) + 1) R1 ha (by decide)
    have cb2 : CB (pz_I (pz_sI h1 (36 + 4 * a) 4 (sB A 22 (5 * a + 1) + 1)) (39 + 4 * a)) (sB A 21) a := ((R2.2.2.2.1 a ha).2.2 hth).2.2.1
    have Z2 := BZ_set (CB_BZ cb2) (show v / 16 < 64 by omega) (show v % 16 < 16 by omega)
    obtain ⟨x, x1, x2, x3⟩ := Z2 (v / 16) (by omega)
    rw [pk_us] at x2
    have R3 := RC_21 (k := a) (P := v / 16) (f := upd (sB A 21) (1024 * a + v) 1) R2 ha (by omega) ⟨x, x1, x2, fun q hq => ?_⟩ (fun i hi => pk_un (by omega))
    · have e4 : pz_I (pz_sI h1 (36 + 4 * a) (3 + 1) (sB A 22 (5 * a + 1) + 1)) (39 + 4 * a) (v / 16) = pz_I h1 (39 + 4 * a) (v / 16) := by
        rw [pq_I_sI, if_neg (fun z => n39 z.1)]
      rw [e4] at R3
      have H3 : HC h1 (pz_sI (pz_sI h1 (36 + 4 * a) 4 (sB A 22 (5 * a + 1) + 1)) (39 + 4 * a) (v / 16) (pz_I h1 (39 + 4 * a) (v / 16) ||| 1 <<< (nI (v % 16) &&& 31))) := HC_HF (cs := [36 + 4 * a, 39 + 4 * a]) (HF_trans (HF_sI (by simp)) (HF_sI (by simp))) (fun x hx => by simp at hx; omega)
      have M3 : ROW (pz_sI (pz_sI h1 (36 + 4 * a) 4 (sB A 22 (5 * a + 1) + 1)) (39 + 4 * a) (v / 16) (pz_I h1 (39 + 4 * a) (v / 16) ||| 1 <<< (nI (v % 16) &&& 31))) 133 134 104 (w ++ m) := ROW_fr (cs := [36 + 4 * a, 39 + 4 * a]) M1 (HF_trans (HF_sI (by simp)) (HF_sI (by simp))) (by simp <;> omega) (by simp <;> omega)
      have tr3 : pz_R (pz_sI (pz_sI h1 (36 + 4 * a) 4 (sB A 22 (5 * a + 1) + 1)) (39 + 4 * a) (v / 16) (pz_I h1 (39 + 4 * a) (v / 16) ||| 1 <<< (nI (v % 16) &&& 31))) 23 3 = some t := tr
      have R3' : RC (pz_sI (pz_sI h1 (36 + 4 * a) 4 (sB A 22 (5 * a + 1) + 1)) (39 + 4 * a) (v / 16) (pz_I h1 (39 + 4 * a) (v / 16) ||| 1 <<< (nI (v % 16) &&& 31))) (pz_u1 (pz_u2 (sB A) 22 (5 * a + 1) (sB A 22 (5 * a + 1) + 1)) 21 (upd (sB A 21) (1024 * a + v) 1), sW A, sV A, sD A, upf (sL A) (5 * a + b) ((sL A (5 * a + b)).erase v), sF A) := R3
      generalize pz_sI (pz_sI h1 (36 + 4 * a) 4 (sB A 22 (5 * a + 1) + 1)) (39 + 4 * a) (v / 16) (pz_I h1 (39 + 4 * a) (v / 16) ||| 1 <<< (nI (v % 16) &&& 31)) = h3 at R3' H3 M3 tr3
      have eA : gv1 A a (5 * a + b) v c m = (pz_u1 (pz_u2 (sB A) 22 (5 * a + 1) (sB A 22 (5 * a + 1) + 1)) 21 (upd (sB A 21) (1024 * a + v) 1), sW A, sV A, upf (sD A) a (wrL (sD A a) (v / 16 * c + 64 * (v % 16)) (m.drop 9)), upf (sL A) (5 * a + b) ((sL A (5 * a + b)).erase v), sF A) := by
        unfold gv1 inc
        refine Prod.ext ?_ rfl
        show pz_u2 (pz_u2 (sB A) 21 (1024 * a + v) 1) 22 (5 * a + 1) (sB A 22 (5 * a + 1) + 1) = pz_u1 (pz_u2 (sB A) 22 (5 * a + 1) (sB A 22 (5 * a + 1) + 1)) 21 (upd (sB A 21) (1024 * a + v) 1)
        rw [gu_2to1 (n := 21), gu_21c (by decide)]
      obtain ⟨t', ht', tr', tc', T'⟩ := TS_of R3'
      have et : t' = t := by rw [tr3] at tr'; exact (Option.some.inj tr').symm
      subst et
      have N3 : TN (pz_u1 (pz_u2 (sB A) 22 (5 * a + 1) (sB A 22 (5 * a + 1) + 1)) 21 (upd (sB A 21) (1024 * a + v) 1), sW A, sV A, sD A, upf (sL A) (5 * a + b) ((sL A (5 * a + b)).erase v), sF A) l c p := I.1.1
      obtain ⟨g1, g2, g3, g4, g5, g6, g7, g8⟩ := ACT_of R3'
      rw [c_pieceBegin tc' T' N3]
      simp only [enX0_heedPiece, uX0_heedPiece_0, uX0_heedPiece_0o, uX0_heedPiece_0f, uX0_heedPiece_1, uX0_heedPiece_1o, uX0_heedPiece_1f, uX0_heedPiece_2, uX0_heedPiece_2o, uX0_heedPiece_2f, uX0_heedPiece_3, uX0_heedPiece_6, uX0_heedPiece_9, uX0_heedPiece_10, uX0_heedPiece_11, uX0_heedPiece_12, uX0_heedPiece_15, uX0_heedPiece_15o, uX0_heedPiece_15f, uX0_heedPiece_16, uX0_heedPiece_17, uX0_heedPiece_20, uX0_heedPiece_21, uX0_heedPiece_22, uX0_heedPiece_25, uX0_heedPiece_26, uX0_heedPiece_27, uX0_heedPiece_28, uX0_heedPiece_30, uX0_heedPiece_31, uX0_heedPiece_33, uX0_heedPiece_34, uX0_heedPiece_36, uX0_heedPiece_37, uX0_heedPiece_39, uX0_heedPiece_39o, uX0_heedPiece_39f, uX0_heedPiece_40, uX0_heedPiece_43, uX0_heedPiece_46, uX0_heedPiece_46o, uX0_heedPiece_48, uX0_heedPiece_48o, uX0_heedPiece_48f, uX0_heedPiece_50, uX0_heedPiece_52, uX0_heedPiece_53, uX0_heedPiece_56, uX0_heedPiece_59, uX0_heedPiece_60, uX0_heedPiece_61, uX0_heedPiece_61o, uX0_heedPiece_61f, uX0_heedPiece_62, uX0_heedPiece_63, uX0_heedPiece_66, uX0_heedPiece_67, uX0_heedPiece_68, uX0_heedPiece_71, uX0_heedPiece_71o, uX0_heedPiece_71f, uX0_heedPiece_72, uX0_heedPiece_75, uX0_heedPiece_77, uX0_heedPiece_78, uX0_heedPiece_79, uX0_heedPiece_80, uX0_heedPiece_82, uX0_heedPiece_83, uX0_heedPiece_84, uX0_heedPiece_85, uX0_heedPiece_85o, uX0_heedPiece_85f, uX0_heedPiece_86, uX0_heedPiece_86o, uX0_heedPiece_86f, uX0_heedPiece_87, uX0_heedPiece_87o, uX0_heedPiece_87f, uX0_heedPiece_89, uX0_heedPiece_91, uX0_heedPiece_94, uX0_heedPiece_96, uX0_heedPiece_98, uX0_heedPiece_99, uX0_heedPiece_100, uX0_heedPiece_103, uX0_heedPiece_103o, uX0_heedPiece_103f, uX0_heedPiece_104, uX0_heedPiece_107, uX0_heedPiece_109, uX0_heedPiece_110, uX0_heedPiece_110o, uX0_heedPiece_110f, uX0_heedPiece_112, uX0_heedPiece_114, uX0_heedPiece_117, uX0_heedPiece_120, uX0_heedPiece_121, uX0_heedPiece_122, uX0_heedPiece_122o, uX0_heedPiece_122f, uX0_heedPiece_123, uX0_heedPiece_126, uX0_heedPiece_126o, uX0_heedPiece_126f, uX0_heedPiece_127, uX0_heedPiece_130, uX0_heedPiece_130o, uX0_heedPiece_130f, uX0_heedPiece_132, uX0_heedPiece_134, uX0_heedPiece_137, uX0_heedPiece_137o, uX0_heedPiece_137f, uX0_heedPiece_139, uX0_heedPiece_141, uX0_heedPiece_144, uX0_heedPiece_147, uX0_heedPiece_147o, uX0_heedPiece_147f, uX0_heedPiece_148, uX0_heedPiece_151, uX0_heedPiece_151o, uX0_heedPiece_151f, uX0_heedPiece_153, uX0_heedPiece_156, uX0_heedPiece_158, uX0_heedPiece_160, uX0_heedPiece_161, uX0_heedPiece_164, uX0_heedPiece_167, uX0_heedPiece_167o, uX0_heedPiece_167f, uX0_heedPiece_168, uX0_heedPiece_171, uX0_heedPiece_173, uX0_heedPiece_174, uX0_heedPiece_175, uX0_heedPiece_175o, uX0_heedPiece_175f, uX0_heedPiece_176, uX0_heedPiece_177, uX0_heedPiece_180, uX0_heedPiece_181, uX0_heedPiece_182, uX0_heedPiece_185, uX0_heedPiece_187, uX0_heedPiece_188, uX0_heedPiece_188o, uX0_heedPiece_188f, uX0_heedPiece_189, uX0_heedPiece_190, uX0_heedPiece_193, uX0_heedPiece_194, uX0_heedPiece_196, uX0_heedPiece_197, uX0_heedPiece_198, uX0_heedPiece_201, uX0_heedPiece_201o, uX0_heedPiece_201f, uX0_heedPiece_202, uX0_heedPiece_204, uX0_heedPiece_207, uX0_heedPiece_208, uX0_heedPiece_212, uX0_heedPiece_213, uX0_heedPiece_216, uX0_heedPiece_216o, uX0_heedPiece_216f, uX0_heedPiece_217, uX0_heedPiece_220, uX0_heedPiece_220o, uX0_heedPiece_220f, uX0_heedPiece_221, uX0_heedPiece_224, uX0_heedPiece_226, uX0_heedPiece_229, uX0_heedPiece_229o, uX0_heedPiece_231, uX0_heedPiece_231o, uX0_heedPiece_231f, uX0_heedPiece_233, uX0_heedPiece_233a, uX0_heedPiece_236, uX0_heedPiece_236o, uX0_heedPiece_236f, uX0_heedPiece_238, uX0_heedPiece_241, uX0_heedPiece_244, uX0_heedPiece_244o, uX0_heedPiece_244f, uX0_heedPiece_245, uX0_heedPiece_248, uX0_heedPiece_248o, uX0_heedPiece_248f, uX0_heedPiece_250, uX0_heedPiece_250o, uX0_heedPiece_250f, uX0_heedPiece_251, uX0_heedPiece_254, uX0_heedPiece_257, uX0_heedPiece_260, uX0_heedPiece_263, uX0_heedPiece_264, pq_C_sI, pq_C_sJ, pq_C_sR, pq_C_sA, pq_L_sI, pq_L_sJ, pq_L_sR, pq_L_sA, pq_I_sI, pq_I_sJ, pq_I_sR, pq_I_sA, pq_J_sI, pq_J_sJ, pq_J_sR, pq_J_sA, pq_R_sI, pq_R_sJ, pq_R_sR, pq_R_sA, pq_N_sI, pq_N_sJ, pq_N_sR, pq_N_sA, pq_S_sI, pq_S_sJ, pq_S_sR, pq_S_sA, pz_rf_s, pz_cut_i, pz_cut_r, pz_cut_n, pz_cut_f, pz_cut_u, pz_cut_o, true_and, and_true, true_or, or_true, Option.toList_some, Option.toList_none, List.cons_append, List.nil_append, Nat.add_left_cancel_iff, Nat.left_eq_add, Nat.add_eq_left, Nat.reduceEqDiff, if_true, if_false, ite_true, ite_false, false_and, and_false, false_or, or_false, reduceIte, reduceCtorEq, and_self, z_4, z_5, z_7, z_8, z_10, z_16, z_20, z_64, not_false_eq_true, g1, e64, nI_add]
      refine c_writeBlock R3' ha hth M3 hw (by omega) (show v / 16 * c + 64 * (v % 16) + (m.drop 9).length ≤ (sD A a).length by rw [hD, List.length_drop]; exact hwl) (fun h4 F4 R4 => ?_)
      have H4 : HC h3 h4 := HC_HF F4 (fun x hx => by simp at hx; omega)
      have tr4 : pz_R h4 23 3 = some t' := by rw [F4.2.2.1]; exact tr3
      have R4' : RC h4 (gv1 A a (5 * a + b) v c m) := by rw [eA]; exact R4
      have th5 : sB (gv1 A a (5 * a + b) v c m) 18 a ≠ 0 := hth
      generalize gv1 A a (5 * a + b) v c m = A5 at R4' I5 th5 K
      simp only [List.nil_append, Option.toList_none]
      exact hp_2 R4' I5 ha hb hab th5 v1 tr4 rfl rfl (fun h5 H5 R5 => K h5 (HC_trans H1 (HC_trans H3 (HC_trans H4 H5))) R5)
    · have := x3 q hq
      rw [Bool.eq_iff_iff, this, decide_eq_true_eq]
      show (sB A 21 (1024 * a + (16 * (v / 16) + q)) ≠ 0 ∨ 16 * (v / 16) + q = 16 * (v / 16) + v % 16) ↔ upd (sB A 21) (1024 * a + v) 1 (1024 * a + 16 * (v / 16) + q) ≠ 0
      by_cases e : q = v % 16
      · rw [show 1024 * a + 16 * (v / 16) + q = 1024 * a + v by omega, pk_us]
        exact ⟨fun _ => by decide, fun _ => Or.inr (by omega)⟩
      · rw [pk_un (by omega), Nat.add_assoc]
        exact ⟨fun z => z.elim id (fun y => absurd y (by omega)), Or.inl⟩
end
