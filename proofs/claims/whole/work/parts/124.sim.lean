theorem sm_can {T : Nat} {t : Int64} (hT : T < 2 ^ 40) : (ss_can (lN T) t = 0 ∧ (t < lN T ∨ ¬ t - lN T ≤ 100000)) ∨ (¬ ss_can (lN T) t = 0 ∧ ¬ t < lN T ∧ t - lN T ≤ 100000 ∧ ∃ τ, t = lN τ ∧ τ ≤ T + 100000) := by
  unfold ss_can
  by_cases c1 : t < lN T
  · exact Or.inl ⟨by rw [if_pos c1], Or.inl c1⟩
  · rw [if_neg c1]
    by_cases c2 : 100000 < t - lN T
    · exact Or.inl ⟨by rw [if_pos c2], Or.inr (Int64.not_le.mpr c2)⟩
    · rw [if_neg c2]
      have hp : ¬ t < 0 := fun z => by
        have z1 : (0 : Int64) ≤ lN T := (pk_lLE (a := 0) (b := T) (by omega) (by omega)).mpr (by omega)
        exact c1 (Int64.lt_of_lt_of_le z z1)
      obtain ⟨k, hk, rfl⟩ := pk_lOf hp
      have hkT : T ≤ k := by
        rcases Nat.lt_or_ge k T with z | z
        · exact absurd ((pk_lLT hk (by omega)).mpr z) c1
        · exact z
      have h3 := Int64.not_lt.mp c2
      refine Or.inr ⟨by decide, c1, h3, k, rfl, ?_⟩
      rw [lN_sub hkT] at h3
      have := (pk_lLE (a := k - T) (b := 100000) (by omega) (by omega)).mp h3
      omega
set_option maxHeartbeats 8000000 in
theorem sm_step {c : Nat} {x : ssS} {y : mmS} {t : Int64} (h : sm_Rel c x y) (hc : c < 512) : (ss_step x t).1 = (mm_step y t).1 ∧ sm_Rel (c + 1) (ss_step x t).2 (mm_step y t).2 := by
  obtain ⟨⟨md, du, bi, sl, g0, g1, k0, k1, ch⟩, nw, bt, bn, sa, ck, cu, la, rq, n, wk, td, pl, fl, pn, th, tn⟩ := x
  obtain ⟨⟨md', qu, be, sv, sl', cp, vs, ch'⟩, thr, tm, wk', rq', td', od, fl', th', mn, tr, rn, st, ck', cu', lz⟩ := y
  have h : sm_S c md du bi sl g0 g1 k0 k1 ch nw bt bn sa ck cu la rq n wk td pl fl pn th tn md' qu be sv sl' cp vs ch' tm wk' rq' td' od fl' th' mn tr rn st ck' cu' lz := h
  obtain ⟨⟨rfl, rfl, hdu, ⟨q, b, rfl, rfl, hq, hb'⟩, hV, hC, hH, h2, hk0, hk1, hcp⟩, ⟨hn, hU⟩, ⟨T, rfl, rfl, hT⟩, ⟨hW, hwk⟩, ⟨rfl, rfl, rfl, rfl, rfl, rfl⟩, ⟨hPt, hpn⟩, ⟨kt, hkt, rfl, rfl, hA⟩⟩ := h
  have hE := sm_mono (B := 100000 * c) (B' := 100000 * (c + 1)) (by omega) (show sm_R rq' (100000 * c) md du bi sl g0 g1 k0 k1 ch md (lN q) (lN b) sv sl cp vs ch' from ⟨rfl, rfl, hdu, ⟨q, b, rfl, rfl, hq, hb'⟩, hV, hC, hH, h2, hk0, hk1, hcp⟩)
  have hsame : ∀ thr : Int32, sm_Rel (c + 1) ((md, du, bi, sl, g0, g1, k0, k1, ch), lN T, bt, bn, sa, ck, cu, la, rq, n, wk, td, pl, fl, pn, th, nI kt) ((md, lN q, lN b, sv, sl, cp, vs, ch'), thr, lN T, wk', rq', td', od, fl', th', nI kt, bn, bt, sa, ck, cu, la) := fun _ => ⟨hE, ⟨hn, hU⟩, ⟨T, rfl, rfl, by omega⟩, ⟨hW, hwk⟩, ⟨rfl, rfl, rfl, rfl, rfl, rfl⟩, ⟨hPt, hpn⟩, ⟨kt, hkt, rfl, rfl, hA⟩⟩
  simp only [ss_step, mm_step]
  rcases sm_can (T := T) (t := t) (by omega) with ⟨z, z2⟩ | ⟨z, z1, z2, τ, rfl, hτ⟩
  · rw [if_pos z]
    rcases z2 with z2 | z2
    · rw [if_pos z2]; exact ⟨rfl, hsame 0⟩
    · by_cases z3 : t < lN T
      · rw [if_pos z3]; exact ⟨rfl, hsame 0⟩
      · rw [if_neg z3, if_neg z2]; exact ⟨rfl, hsame 0⟩
  · rw [if_neg z, if_neg z1, if_pos z2]
    have hadv : sm_RE rq' (100000 * (c + 1)) (ss_adv n wk (lN τ) 1000 (lN T) (md, du, bi, sl, g0, g1, k0, k1, ch)) (mm_go wk' rq' (lN τ) 20 (md, lN q, lN b, sv, sl, cp, vs, ch')) := sm_adv hn hW hwk (by omega) (by omega) 20 1000 _ _ _ (Nat.le_trans (sm_mu10 _ _) (by omega)) (by omega) hE
    generalize ss_adv n wk (lN τ) 1000 (lN T) (md, du, bi, sl, g0, g1, k0, k1, ch) = E at hadv ⊢
    generalize mm_go wk' rq' (lN τ) 20 (md, lN q, lN b, sv, sl, cp, vs, ch') = M at hadv ⊢
    exact ⟨hadv.1, hadv, ⟨hn, hU⟩, ⟨τ, rfl, rfl, by omega⟩, ⟨hW, hwk⟩, ⟨rfl, rfl, rfl, rfl, rfl, rfl⟩, ⟨hPt, hpn⟩, ⟨kt, hkt, rfl, rfl, hA⟩⟩
theorem sm_cntH {ch ch' : ssF} (hH : sm_H ch ch') : bl_cnt ch 8 0 0 = bl_cnt ch' 8 0 0 := by
  rw [sm_cnt0, sm_cnt0, sm_cn_congr (f := ch) (g := ch') 8 0 (fun j _ h => by rw [hH j (by omega)])]
set_option maxHeartbeats 8000000 in
theorem sm_cut {c : Nat} {x : ssS} {y : mmS} {t : Int64} (h : sm_Rel c x y) (hc : c < 512) : (ss_cut x t).1 = (mm_cut y t).1 ∧ sm_Rel (c + 1) (ss_cut x t).2 (mm_cut y t).2 := by
  obtain ⟨⟨md, du, bi, sl, g0, g1, k0, k1, ch⟩, nw, bt, bn, sa, ck, cu, la, rq, n, wk, td, pl, fl, pn, th, tn⟩ := x
  obtain ⟨⟨md', qu, be, sv, sl', cp, vs, ch'⟩, thr, tm, wk', rq', td', od, fl', th', mn, tr, rn, st, ck', cu', lz⟩ := y
  have h : sm_S c md du bi sl g0 g1 k0 k1 ch nw bt bn sa ck cu la rq n wk td pl fl pn th tn md' qu be sv sl' cp vs ch' tm wk' rq' td' od fl' th' mn tr rn st ck' cu' lz := h
  obtain ⟨⟨rfl, rfl, hdu, ⟨q, b, rfl, rfl, hq, hb'⟩, hV, hC, hH, h2, hk0, hk1, hcp⟩, ⟨hn, hU⟩, ⟨T, rfl, rfl, hT⟩, ⟨hW, hwk⟩, ⟨rfl, rfl, rfl, rfl, rfl, rfl⟩, ⟨hPt, hpn⟩, ⟨kt, hkt, rfl, rfl, hA⟩⟩ := h
  have hE := sm_mono (B := 100000 * c) (B' := 100000 * (c + 1)) (by omega) (show sm_R rq' (100000 * c) md du bi sl g0 g1 k0 k1 ch md (lN q) (lN b) sv sl cp vs ch' from ⟨rfl, rfl, hdu, ⟨q, b, rfl, rfl, hq, hb'⟩, hV, hC, hH, h2, hk0, hk1, hcp⟩)
  have hsame : ∀ thr : Int32, sm_Rel (c + 1) ((md, du, bi, sl, g0, g1, k0, k1, ch), lN T, bt, bn, sa, ck, cu, la, rq, n, wk, td, pl, fl, pn, th, nI kt) ((md, lN q, lN b, sv, sl, cp, vs, ch'), thr, lN T, wk', rq', td', od, fl', th', nI kt, bn, bt, sa, ck, cu, la) := fun _ => ⟨hE, ⟨hn, hU⟩, ⟨T, rfl, rfl, by omega⟩, ⟨hW, hwk⟩, ⟨rfl, rfl, rfl, rfl, rfl, rfl⟩, ⟨hPt, hpn⟩, ⟨kt, hkt, rfl, rfl, hA⟩⟩
  simp only [ss_cut, mm_cut]
  rcases sm_can (T := T) (t := t) (by omega) with ⟨z, z2⟩ | ⟨z, z1, z2, τ, rfl, hτ⟩
  · rw [if_pos z]
    rcases z2 with z2 | z2
    · rw [if_pos z2]; exact ⟨rfl, hsame 0⟩
    · by_cases z3 : t < lN T
      · rw [if_pos z3]; exact ⟨rfl, hsame 0⟩
      · rw [if_neg z3, if_neg z2]; exact ⟨rfl, hsame 0⟩
  · rw [if_neg z, if_neg z1, if_pos z2]
    by_cases m0 : md = 0
    · rw [if_pos m0, if_pos m0]; exact ⟨rfl, hsame 0⟩
    · rw [if_neg m0, if_neg m0]
      have hadv : sm_RE rq' (100000 * (c + 1)) (ss_adv n wk (lN τ) 1000 (lN T) (md, du, bi, sl, g0, g1, k0, k1, ch)) (mm_go wk' rq' (lN τ) 20 (md, lN q, lN b, sv, sl, cp, vs, ch')) := sm_adv hn hW hwk (by omega) (by omega) 20 1000 _ _ _ (Nat.le_trans (sm_mu10 _ _) (by omega)) (by omega) hE
      generalize ss_adv n wk (lN τ) 1000 (lN T) (md, du, bi, sl, g0, g1, k0, k1, ch) = E at hadv ⊢
      generalize mm_go wk' rq' (lN τ) 20 (md, lN q, lN b, sv, sl, cp, vs, ch') = M at hadv ⊢
      obtain ⟨-, a2, -, a4, a5, a6, a7, -, a9⟩ := hadv
      exact ⟨sm_cntH a7, ⟨rfl, a2, (by simp [mm_due] : (-1 : Int64) = mm_due rq' 0 M.2.1 M.2.2.1), a4, a5, a6, a7, fun z => absurd (show (0 : Int32) = 2 from z) (by decide), a9⟩, ⟨hn, hU⟩, ⟨τ, rfl, rfl, by omega⟩, ⟨hW, hwk⟩, ⟨rfl, rfl, rfl, rfl, rfl, rfl⟩, ⟨hPt, hpn⟩, ⟨kt, hkt, rfl, rfl, hA⟩⟩
