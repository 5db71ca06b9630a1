/-! the bounds stay -/
theorem okm_br {X : XT} (ho : okX X) {b t u v : Nat} (ht : t < x_sz X) (hu : u < x_sz X) (hn : t ≠ u) (hv : v < 100) : okX (tX_br X b t u v) := by
  have hs := ok_sz ho
  obtain ⟨a1, a2, a3, a4, a5, a6, a7, a8, a9, a10⟩ := ho
  unfold okX
  simp only [tX_br, x_sz_br, x_sz_bn, x_sz_ld, x_sz_hi, x_sz_lo, x_br_br, x_br_bn, x_br_ld, x_br_hi, x_br_lo, x_lo_br, x_lo_bn, x_lo_ld, x_lo_hi, x_lo_lo, x_hi_br, x_hi_bn, x_hi_ld, x_hi_hi, x_hi_lo, x_ld_br, x_ld_bn, x_ld_ld, x_ld_hi, x_ld_lo, x_bn_br, x_bn_bn, x_bn_ld, x_bn_hi, x_bn_lo, x_th_br, x_th_bn, x_th_ld, x_th_hi, x_th_lo, x_pl_br, x_pl_bn, x_pl_ld, x_pl_hi, x_pl_lo, x_ki_br, x_ki_bn, x_ki_ld, x_ki_hi, x_ki_lo, x_kn_br, x_kn_bn, x_kn_ld, x_kn_hi, x_kn_lo, x_wt_br, x_wt_bn, x_wt_ld, x_wt_hi, x_wt_lo, x_ab_br, x_ab_bn, x_ab_ld, x_ab_hi, x_ab_lo, x_pu_br, x_pu_bn, x_pu_ld, x_pu_hi, x_pu_lo, x_fa_br, x_fa_bn, x_fa_ld, x_fa_hi, x_fa_lo, x_sg_br, x_sg_bn, x_sg_ld, x_sg_hi, x_sg_lo, x_sb_br, x_sb_bn, x_sb_ld, x_sb_hi, x_sb_lo, x_sv_br, x_sv_bn, x_sv_ld, x_sv_hi, x_sv_lo]
  refine ⟨a1, fun i hi => ?_, fun i hi hb => ?_, a4, a5, a6, a7, a8, a9, a10⟩
  · have h2 := a2 i hi
    simp only [updN]
    by_cases c : i = b
    · simp only [if_pos c]
      refine ⟨?_, ?_, hv, by omega⟩ <;> split <;> omega
    · simp only [if_neg c]; exact h2
  · simp only [updN]
    by_cases c : i = b
    · simp only [if_pos c]
      refine ⟨?_, ?_⟩ <;> split <;> omega
    · simp only [if_neg c]
      exact a3 i hi (by simpa [c] using hb)
theorem okm_fall {X : XT} (ho : okX X) {b : Nat} : okX (tX_fall X b) := by
  have hs := ok_sz ho
  obtain ⟨a1, a2, a3, a4, a5, a6, a7, a8, a9, a10⟩ := ho
  unfold okX
  simp only [tX_fall, x_sz_br, x_br_br, x_lo_br, x_hi_br, x_ld_br, x_bn_br, x_th_br, x_pl_br, x_ki_br, x_kn_br, x_wt_br, x_ab_br, x_pu_br, x_fa_br, x_sg_br, x_sb_br, x_sv_br]
  exact ⟨a1, a2, fun i hi hb => a3 i hi (by simp only [Bool.and_eq_true] at hb; exact hb.1), a4, a5, a6, a7, a8, a9, a10⟩
theorem okm_pers {X : XT} (ho : okX X) {p t k : Nat} (ht : t < x_sz X) (hk : k < 3) : okX (tX_pers X p t k) := by
  have hs := ok_sz ho
  obtain ⟨a1, a2, a3, a4, a5, a6, a7, a8, a9, a10⟩ := ho
  unfold okX
  simp only [tX_pers, x_sz_th, x_sz_kn, x_sz_ki, x_sz_pl, x_br_th, x_br_kn, x_br_ki, x_br_pl, x_lo_th, x_lo_kn, x_lo_ki, x_lo_pl, x_hi_th, x_hi_kn, x_hi_ki, x_hi_pl, x_ld_th, x_ld_kn, x_ld_ki, x_ld_pl, x_bn_th, x_bn_kn, x_bn_ki, x_bn_pl, x_th_th, x_th_kn, x_th_ki, x_th_pl, x_pl_th, x_pl_kn, x_pl_ki, x_pl_pl, x_ki_th, x_ki_kn, x_ki_ki, x_ki_pl, x_kn_th, x_kn_kn, x_kn_ki, x_kn_pl, x_wt_th, x_wt_kn, x_wt_ki, x_wt_pl, x_ab_th, x_ab_kn, x_ab_ki, x_ab_pl, x_pu_th, x_pu_kn, x_pu_ki, x_pu_pl, x_fa_th, x_fa_kn, x_fa_ki, x_fa_pl, x_sg_th, x_sg_kn, x_sg_ki, x_sg_pl, x_sb_th, x_sb_kn, x_sb_ki, x_sb_pl, x_sv_th, x_sv_kn, x_sv_ki, x_sv_pl]
  refine ⟨a1, a2, a3, fun i hi => ?_, fun i hi h => ?_, fun i hi h => ?_, a7, a8, a9, a10⟩
  · have h4 := a4 i hi
    simp only [updN]
    by_cases c : i = p
    · simp only [if_pos c]; exact ⟨by omega, hk⟩
    · simp only [if_neg c]; exact h4
  · simp only [updN]
    by_cases c : i = p
    · simp only [if_pos c]; exact ht
    · simp only [if_neg c]; exact a5 i hi (by simpa [c] using h)
  · intro k'
    simp only [updF]
    by_cases c : i = p
    · simp [c] at h
    · simp only [if_neg c]; exact a6 i hi (by simpa [c] using h) k'
theorem okm_leave {X : XT} (ho : okX X) {p : Nat} : okX (tX_leave X p) := by
  have hs := ok_sz ho
  obtain ⟨a1, a2, a3, a4, a5, a6, a7, a8, a9, a10⟩ := ho
  unfold okX
  simp only [tX_leave, x_sz_kn, x_sz_th, x_br_kn, x_br_th, x_lo_kn, x_lo_th, x_hi_kn, x_hi_th, x_ld_kn, x_ld_th, x_bn_kn, x_bn_th, x_th_kn, x_th_th, x_pl_kn, x_pl_th, x_ki_kn, x_ki_th, x_kn_kn, x_kn_th, x_wt_kn, x_wt_th, x_ab_kn, x_ab_th, x_pu_kn, x_pu_th, x_fa_kn, x_fa_th, x_sg_kn, x_sg_th, x_sb_kn, x_sb_th, x_sv_kn, x_sv_th]
  refine ⟨a1, a2, a3, a4, fun i hi h => a5 i hi (by simp only [Bool.and_eq_true] at h; exact h.1), fun i hi h => ?_, a7, a8, a9, a10⟩
  intro k'
  simp only [updF]
  by_cases c : i = p
  · simp only [if_pos c]
  · simp only [if_neg c]; exact a6 i hi (by simpa [c] using h) k'
theorem okm_news {X : XT} (ho : okX X) {k : Nat} {w : Int} {a : Nat} (hw : -20 ≤ w ∧ w ≤ 99) (ha : a < 4) : okX (tX_news X k w a) := by
  have hs := ok_sz ho
  obtain ⟨a1, a2, a3, a4, a5, a6, a7, a8, a9, a10⟩ := ho
  unfold okX
  simp only [tX_news, x_sz_pu, x_sz_ab, x_sz_wt, x_br_pu, x_br_ab, x_br_wt, x_lo_pu, x_lo_ab, x_lo_wt, x_hi_pu, x_hi_ab, x_hi_wt, x_ld_pu, x_ld_ab, x_ld_wt, x_bn_pu, x_bn_ab, x_bn_wt, x_th_pu, x_th_ab, x_th_wt, x_pl_pu, x_pl_ab, x_pl_wt, x_ki_pu, x_ki_ab, x_ki_wt, x_kn_pu, x_kn_ab, x_kn_wt, x_wt_pu, x_wt_ab, x_wt_wt, x_ab_pu, x_ab_ab, x_ab_wt, x_pu_pu, x_pu_ab, x_pu_wt, x_fa_pu, x_fa_ab, x_fa_wt, x_sg_pu, x_sg_ab, x_sg_wt, x_sb_pu, x_sb_ab, x_sb_wt, x_sv_pu, x_sv_ab, x_sv_wt]
  refine ⟨a1, a2, a3, a4, a5, a6, fun i hi => ?_, a8, a9, a10⟩
  have h7 := a7 i hi
  simp only [updF, updN]
  by_cases c : i = k
  · simp only [if_pos c]; exact ⟨hw.1, hw.2, ha⟩
  · simp only [if_neg c]; exact h7
theorem okm_learn {X : XT} (ho : okX X) {p k : Nat} {c : Bool} (ht : x_th X p = true) : okX (tX_learn X p k c) := by
  have hs := ok_sz ho
  obtain ⟨a1, a2, a3, a4, a5, a6, a7, a8, a9, a10⟩ := ho
  unfold okX
  simp only [tX_learn, x_sz_kn, x_br_kn, x_lo_kn, x_hi_kn, x_ld_kn, x_bn_kn, x_th_kn, x_pl_kn, x_ki_kn, x_kn_kn, x_wt_kn, x_ab_kn, x_pu_kn, x_fa_kn, x_sg_kn, x_sb_kn, x_sv_kn]
  refine ⟨a1, a2, a3, a4, a5, fun i hi h => ?_, a7, a8, a9, a10⟩
  intro k'
  simp only [updF]
  by_cases e : i = p
  · rw [e, ht] at h; cases h
  · simp only [if_neg e]; exact a6 i hi h k'
theorem okm_seen {X : XT} (ho : okX X) {b v : Nat} (hg : x_sg X < 6) (hb : b < 8) (hv : v < 1000) : okX (tX_seen X b v) := by
  have hs := ok_sz ho
  obtain ⟨a1, a2, a3, a4, a5, a6, a7, a8, a9, a10⟩ := ho
  unfold okX
  simp only [tX_seen, x_sz_sg, x_sz_sv, x_sz_sb, x_br_sg, x_br_sv, x_br_sb, x_lo_sg, x_lo_sv, x_lo_sb, x_hi_sg, x_hi_sv, x_hi_sb, x_ld_sg, x_ld_sv, x_ld_sb, x_bn_sg, x_bn_sv, x_bn_sb, x_th_sg, x_th_sv, x_th_sb, x_pl_sg, x_pl_sv, x_pl_sb, x_ki_sg, x_ki_sv, x_ki_sb, x_kn_sg, x_kn_sv, x_kn_sb, x_wt_sg, x_wt_sv, x_wt_sb, x_ab_sg, x_ab_sv, x_ab_sb, x_pu_sg, x_pu_sv, x_pu_sb, x_fa_sg, x_fa_sv, x_fa_sb, x_sg_sg, x_sg_sv, x_sg_sb, x_sb_sg, x_sb_sv, x_sb_sb, x_sv_sg, x_sv_sv, x_sv_sb]
  refine ⟨a1, a2, a3, a4, a5, a6, a7, a8, by omega, fun i hi => ?_⟩
  have h10 := a10 i hi
  simp only [updN]
  by_cases c : i = x_sg X
  · simp only [if_pos c]; exact ⟨hb, hv⟩
  · simp only [if_neg c]; exact h10
theorem okm_beg {X : XT} (ho : okX X) {n : Nat} (h2 : 2 ≤ n) (h6 : n ≤ 6) : okX (tX_beg X n) := by
  have hs := ok_sz ho
  obtain ⟨a1, a2, a3, a4, a5, a6, a7, a8, a9, a10⟩ := ho
  unfold okX
  simp only [tX_beg, x_sz_kn, x_sz_ab, x_sz_wt, x_sz_sg, x_sz_pu, x_sz_th, x_sz_br, x_sz_sz, x_br_kn, x_br_ab, x_br_wt, x_br_sg, x_br_pu, x_br_th, x_br_br, x_br_sz, x_lo_kn, x_lo_ab, x_lo_wt, x_lo_sg, x_lo_pu, x_lo_th, x_lo_br, x_lo_sz, x_hi_kn, x_hi_ab, x_hi_wt, x_hi_sg, x_hi_pu, x_hi_th, x_hi_br, x_hi_sz, x_ld_kn, x_ld_ab, x_ld_wt, x_ld_sg, x_ld_pu, x_ld_th, x_ld_br, x_ld_sz, x_bn_kn, x_bn_ab, x_bn_wt, x_bn_sg, x_bn_pu, x_bn_th, x_bn_br, x_bn_sz, x_th_kn, x_th_ab, x_th_wt, x_th_sg, x_th_pu, x_th_th, x_th_br, x_th_sz, x_pl_kn, x_pl_ab, x_pl_wt, x_pl_sg, x_pl_pu, x_pl_th, x_pl_br, x_pl_sz, x_ki_kn, x_ki_ab, x_ki_wt, x_ki_sg, x_ki_pu, x_ki_th, x_ki_br, x_ki_sz, x_kn_kn, x_kn_ab, x_kn_wt, x_kn_sg, x_kn_pu, x_kn_th, x_kn_br, x_kn_sz, x_wt_kn, x_wt_ab, x_wt_wt, x_wt_sg, x_wt_pu, x_wt_th, x_wt_br, x_wt_sz, x_ab_kn, x_ab_ab, x_ab_wt, x_ab_sg, x_ab_pu, x_ab_th, x_ab_br, x_ab_sz, x_pu_kn, x_pu_ab, x_pu_wt, x_pu_sg, x_pu_pu, x_pu_th, x_pu_br, x_pu_sz, x_fa_kn, x_fa_ab, x_fa_wt, x_fa_sg, x_fa_pu, x_fa_th, x_fa_br, x_fa_sz, x_sg_kn, x_sg_ab, x_sg_wt, x_sg_sg, x_sg_pu, x_sg_th, x_sg_br, x_sg_sz, x_sb_kn, x_sb_ab, x_sb_wt, x_sb_sg, x_sb_pu, x_sb_th, x_sb_br, x_sb_sz, x_sv_kn, x_sv_ab, x_sv_wt, x_sv_sg, x_sv_pu, x_sv_th, x_sv_br, x_sv_sz]
  exact ⟨⟨h2, h6⟩, a2, fun i hi hb => (by cases hb), a4, fun i hi h => (by cases h), fun _ _ _ _ => trivial, fun k hk => ⟨by omega, by omega, by omega⟩, a8, by omega, a10⟩
theorem okm_fa {X : XT} (ho : okX X) {n : Nat} (h : n ≤ 9) : okX (xs_fa X n) := by
  have hs := ok_sz ho
  obtain ⟨a1, a2, a3, a4, a5, a6, a7, a8, a9, a10⟩ := ho
  exact ⟨a1, a2, a3, a4, a5, a6, a7, h, a9, a10⟩
theorem okm_sg {X : XT} (ho : okX X) : okX (xs_sg X 0) := by
  have hs := ok_sz ho
  obtain ⟨a1, a2, a3, a4, a5, a6, a7, a8, a9, a10⟩ := ho
  exact ⟨a1, a2, a3, a4, a5, a6, a7, a8, Nat.zero_le _, a10⟩
theorem ix_in {a b n : Nat} {x : Int32} (h : inN a b x = true) (hn : b < n) (hn2 : n < 2 ^ 31) : a ≤ ix n x ∧ ix n x ≤ b := by
  obtain ⟨p, h1, h2, rfl⟩ := inN_ex h
  rw [ix_nI (by omega) hn2]; exact ⟨h1, h2⟩
theorem oko_terraces {X : XT} (ho : okX X) (x : Int32) : okX (terracesO X x).2 := by
  unfold terracesO
  split
  · rename_i h
    have := ix_in (n := 7) h (by omega) (by omega)
    exact okm_beg ho this.1 this.2
  · exact ho
theorem oko_bridge {X : XT} (ho : okX X) (w x y v : Int32) : okX (bridgeO X w x y v).2 := by
  unfold bridgeO
  split
  · rename_i h
    split
    · rename_i h2
      simp only [Bool.and_eq_true, teI, decide_eq_true_eq, Bool.not_eq_true', decide_eq_false_iff_not] at h
      have := ix_in (n := 100) h2 (by omega) (by omega)
      refine okm_br ho h.1.1.2 h.1.2 (fun z => h.2 ?_) (by omega)
      rw [ix_lt h.1.1.2, ix_lt h.1.2, z]
    · exact ho
  · exact ho
theorem oko_fall {X : XT} (ho : okX X) (x : Int32) : okX (fallO X x).2 := by
  unfold fallO
  split
  · exact okm_fall ho
  · exact ho
theorem oko_person {X : XT} (ho : okX X) (x y z : Int32) : okX (personO X x y z).2 := by
  unfold personO
  split
  · rename_i h
    split
    · rename_i h2
      simp only [Bool.and_eq_true, teI, decide_eq_true_eq] at h
      have := ix_in (n := 3) h2 (by omega) (by omega)
      exact okm_pers ho h.2 (by omega)
    · exact ho
  · exact ho
theorem oko_leave {X : XT} (ho : okX X) (x : Int32) : okX (leaveO X x).2 := by
  unfold leaveO
  split
  · exact okm_leave ho
  · exact ho
theorem oko_news {X : XT} (ho : okX X) (x y z : Int32) : okX (newsO X x y z).2 := by
  unfold newsO
  split
  · split
    · rename_i h2
      simp only [Bool.and_eq_true, inI, decide_eq_true_eq] at h2
      have := ix_in (n := 4) h2.2 (by omega) (by omega)
      exact okm_news ho h2.1 (by omega)
    · exact ho
  · exact ho
theorem oko_learn {X : XT} (ho : okX X) (x y : Int32) (c : Bool) : okX (learnO X x y c).2 := by
  unfold learnO
  split
  · rename_i h
    simp only [Bool.and_eq_true, thI] at h
    exact okm_learn ho h.1.2
  · exact ho
theorem oko_fade {X : XT} (ho : okX X) (x : Int32) : okX (fadeO X x).2 := by
  unfold fadeO
  split
  · rename_i h
    have := ix_in (n := 10) h (by omega) (by omega)
    exact okm_fa ho this.2
  · exact ho
theorem oko_seen {X : XT} (ho : okX X) (x y : Int32) : okX (seenO X x y).2 := by
  unfold seenO
  split
  · rename_i h
    split
    · rename_i h2
      split
      · exact ho
      · rename_i h3
        have q1 := ix_in (n := 8) h (by omega) (by omega)
        have q2 := ix_in (n := 1000) h2 (by omega) (by omega)
        have q3 : x_sg X ≤ 6 := ho.2.2.2.2.2.2.2.2.1
        exact okm_seen ho (by omega) (by omega) (by omega)
    · exact ho
  · exact ho
theorem oko_forget {X : XT} (ho : okX X) : okX (forgetO X).2 := okm_sg ho
theorem oko_done {X : XT} (ho : okX X) (s : Nat → Nat) (n : Nat) (hn : n ≤ 60) : okX (doneO X s n).2.1 := by
  unfold doneO
  split
  · rename_i h
    split
    · exact ho
    · exact dy_ok (wf_all s n (flt_ok hn h n (Nat.le_refl n))) ho _ (Nat.le_refl _)
  · exact ho
theorem oko_restore {X : XT} (ho : okX X) {M : Nat → Option XT} (hM : ∀ n Y, M n = some Y → okX Y) (x : Int32) : okX (restoreM X M x).2 := by
  unfold restoreM
  split
  · split
    · rename_i Y h
      exact hM _ Y h
    · exact ho
  · exact ho
theorem oko_image {X : XT} (ho : okX X) {M : Nat → Option XT} (hM : ∀ n Y, M n = some Y → okX Y) (x : Int32) : ∀ n Y, (imageM X M x).2 n = some Y → okX Y := by
  intro n Y
  unfold imageM
  split
  · show (if n = _ then some X else M n) = some Y → _
    split
    · intro h; cases h; exact ho
    · exact hM n Y
  · exact hM n Y
theorem ok_0 : okX X0 := by
  have h : ∀ n : Nat, 2 ≤ n → n ≤ 6 → okX (tX_beg XZ n) := by
    intro n h2 h6
    unfold okX
    simp only [tX_beg, x_sz_kn, x_sz_ab, x_sz_wt, x_sz_sg, x_sz_pu, x_sz_th, x_sz_br, x_sz_sz, x_br_kn, x_br_ab, x_br_wt, x_br_sg, x_br_pu, x_br_th, x_br_br, x_br_sz, x_lo_kn, x_lo_ab, x_lo_wt, x_lo_sg, x_lo_pu, x_lo_th, x_lo_br, x_lo_sz, x_hi_kn, x_hi_ab, x_hi_wt, x_hi_sg, x_hi_pu, x_hi_th, x_hi_br, x_hi_sz, x_ld_kn, x_ld_ab, x_ld_wt, x_ld_sg, x_ld_pu, x_ld_th, x_ld_br, x_ld_sz, x_bn_kn, x_bn_ab, x_bn_wt, x_bn_sg, x_bn_pu, x_bn_th, x_bn_br, x_bn_sz, x_th_kn, x_th_ab, x_th_wt, x_th_sg, x_th_pu, x_th_th, x_th_br, x_th_sz, x_pl_kn, x_pl_ab, x_pl_wt, x_pl_sg, x_pl_pu, x_pl_th, x_pl_br, x_pl_sz, x_ki_kn, x_ki_ab, x_ki_wt, x_ki_sg, x_ki_pu, x_ki_th, x_ki_br, x_ki_sz, x_kn_kn, x_kn_ab, x_kn_wt, x_kn_sg, x_kn_pu, x_kn_th, x_kn_br, x_kn_sz, x_wt_kn, x_wt_ab, x_wt_wt, x_wt_sg, x_wt_pu, x_wt_th, x_wt_br, x_wt_sz, x_ab_kn, x_ab_ab, x_ab_wt, x_ab_sg, x_ab_pu, x_ab_th, x_ab_br, x_ab_sz, x_pu_kn, x_pu_ab, x_pu_wt, x_pu_sg, x_pu_pu, x_pu_th, x_pu_br, x_pu_sz, x_fa_kn, x_fa_ab, x_fa_wt, x_fa_sg, x_fa_pu, x_fa_th, x_fa_br, x_fa_sz, x_sg_kn, x_sg_ab, x_sg_wt, x_sg_sg, x_sg_pu, x_sg_th, x_sg_br, x_sg_sz, x_sb_kn, x_sb_ab, x_sb_wt, x_sb_sg, x_sb_pu, x_sb_th, x_sb_br, x_sb_sz, x_sv_kn, x_sv_ab, x_sv_wt, x_sv_sg, x_sv_pu, x_sv_th, x_sv_br, x_sv_sz]
    exact ⟨⟨h2, h6⟩, fun i _ => ⟨show 0 < 6 by omega, show 0 < 6 by omega, show 0 < 100 by omega, show 0 < 2000 by omega⟩, fun i hi hb => (by cases hb), fun _ _ => ⟨show 0 < 6 by omega, show 0 < 3 by omega⟩, fun i hi h => (by cases h), fun _ _ _ _ => trivial, fun k hk => ⟨by omega, by omega, by omega⟩, show 1 ≤ 9 by omega, by omega, fun _ _ => ⟨show 0 < 8 by omega, show 0 < 1000 by omega⟩⟩
  exact h 4 (by omega) (by omega)
