theorem sm_ldq {cp vs : ssF} {b c : Nat} (hb : b < 8) (hc : c < 2) (hk : mm_kc vs (nI b) = nI c) : ∀ (k j : Nat) (f : ssF) (q : Nat), j + k ≤ 16 → mm_ldr cp vs (nI b) k j f q = if 16 * b + j ≤ q ∧ q < 16 * b + j + k then vp_nar .byte (cp (16 * (2 * b + c) + (q - 16 * b))) else f q
  | 0, j, f, q, _ => by unfold mm_ldr; rw [if_neg (by omega)]
  | k + 1, j, f, q, h => by
    unfold mm_ldr
    rw [sm_ldq hb hc hk k (j + 1) _ q (by omega), hk]
    have e1 : (16 * nI b + nI j).toNatClampNeg = 16 * b + j := by rw [mm_16, nI_add, nI_clamp (by omega)]
    have e2 : (16 * (2 * nI b + nI c) + nI j).toNatClampNeg = 16 * (2 * b + c) + j := by rw [mm_2, nI_add, mm_16, nI_add, nI_clamp (by omega)]
    rw [e1, e2]
    by_cases e : q = 16 * b + j
    · subst e
      rw [if_neg (by omega), if_pos (by omega), pk_us, show 16 * b + j - 16 * b = j by omega]
    · rw [pk_un e]
      by_cases a : 16 * b + (j + 1) ≤ q ∧ q < 16 * b + (j + 1) + k
      · rw [if_pos a, if_pos (by omega)]
      · rw [if_neg a, if_neg (by omega)]
theorem sm_ld {k0 k1 g0 g1 cp vs : ssF} (hV : sm_V g0 g1 vs) (hC : sm_C k0 k1 cp) (h0 : my_by k0) (h1 : my_by k1) (hcp : my_by cp) : ∀ (k i : Nat) (wk wk' ch ch' : ssF), i + k = 8 → (∀ q, q < 16 * i → wk q = wk' q) → (∀ j, j < i → ch j = ch' j) → my_by wk →
    sm_W (bl_load k0 k1 g0 g1 k i wk ch).1 (mm_ld cp vs k i wk' ch').1 ∧ sm_H (bl_load k0 k1 g0 g1 k i wk ch).2 (mm_ld cp vs k i wk' ch').2 ∧ my_by (bl_load k0 k1 g0 g1 k i wk ch).1
  | 0, i, wk, wk', ch, ch', hi, hw, hc, hb => ⟨fun q hq => hw q (by omega), fun j hj => hc j (by omega), hb⟩
  | k + 1, i, wk, wk', ch, ch', hi, hw, hc, hb => by
    unfold bl_load mm_ld
    have hi8 : i < 8 := by omega
    refine sm_ld hV hC h0 h1 hcp k (i + 1) _ _ _ _ (by omega) (fun q hq => ?_) (fun j hj => ?_) ?_
    · rw [sm_row hi8]
      have hkc := sm_kc (j := i) hV hi8
      rcases bl_kc_or g0 g1 (nI i) with z | z
      · rw [z, if_pos (show (0 : Int32) = 0 from rfl), sm_ldq (c := 0) hi8 (by omega) (hkc.trans z) 16 0 _ _ (by omega)]
        by_cases a : i * 16 ≤ q ∧ q < i * 16 + 16
        · rw [if_pos a, if_pos (by omega), sm_nar hcp, show 16 * (2 * i + 0) + (q - 16 * i) = 16 * (2 * i) + (q - i * 16) by omega]
          exact (hC i hi8 (q - i * 16) (by omega)).1.symm
        · rw [if_neg a, if_neg (by omega)]
          exact hw q (by omega)
      · rw [z, if_neg (show ¬ (1 : Int32) = 0 by decide), sm_ldq (c := 1) hi8 (by omega) (hkc.trans z) 16 0 _ _ (by omega)]
        by_cases a : i * 16 ≤ q ∧ q < i * 16 + 16
        · rw [if_pos a, if_pos (by omega), sm_nar hcp, show 16 * (2 * i + 1) + (q - 16 * i) = 16 * (2 * i + 1) + (q - i * 16) by omega]
          exact (hC i hi8 (q - i * 16) (by omega)).2.symm
        · rw [if_neg a, if_neg (by omega)]
          exact hw q (by omega)
    · by_cases e : j = i
      · subst e; rw [pk_us, pk_us]
      · rw [pk_un e, pk_un e]; exact hc j (by omega)
    · refine my_by_cpy ?_ hb _ _ _
      split
      · exact h0
      · exact h1
theorem sm_clr : ∀ (k i : Nat) (f : ssF) (q : Nat), us_clr k i f q = if i ≤ q ∧ q < i + k then 0 else f q
  | 0, i, f, q => by unfold us_clr; rw [if_neg (by omega)]
  | k + 1, i, f, q => by
    unfold us_clr
    rw [sm_clr k (i + 1), sm_b0]
    by_cases e : q = i
    · subst e
      rw [if_neg (by omega), if_pos (by omega), pk_us]
    · rw [pk_un e]
      by_cases a : i + 1 ≤ q ∧ q < i + 1 + k
      · rw [if_pos a, if_pos (by omega)]
      · rw [if_neg a, if_neg (by omega)]
theorem sm_clrU (rq rq' : ssF) : sm_U 0 (us_clr 17 0 rq) (us_clr 16 1 rq') := by
  have hz : ∀ u, 1 ≤ u → u < 1 + 16 → us_clr 16 1 rq' u = 0 := fun u h1 h2 => by rw [sm_clr, if_pos (by omega)]
  refine ⟨?_, fun u h1 h2 => ?_⟩
  · rw [sm_cnt0, sm_cn_congr (g := fun _ => 0) 16 1 (fun j a b => by rw [hz j a b])]
    rfl
  · rw [hz u h1 (by omega), sm_clr, if_pos (by omega)]
    exact ⟨rfl, Or.inl rfl⟩
theorem sm_seR {c : Nat} {x : ssS} {y : mmS} (h : sm_Rel c x y) : mm_se y.2.2.2.2.2.1 y.2.2.2.2.2.2.1 y.2.2.2.2.2.2.2.1 20 (mm_np y.2.2.2.2.2.1 y.2.2.2.2.2.2.1 (-1) 0 20 1 0) 0 := by
  have hPt := h.2.2.2.2.2.1.1
  exact sm_se hPt 20 (-1) _ _ 0 (sm_np0 hPt (sm_G0 hPt)) (sm_cn_le _ _ _)
theorem sm_endR {c : Nat} {x : ssS} {y : mmS} {t : Int64} (h : sm_Rel c x y) : mm_end y.2.2.2.1 y.2.2.2.2.1 t 20 y.1 := sm_end 20 _ (sm_IofR (e := x.1) h.1) (Nat.le_trans (sm_mu10 _ _) (by omega))
set_option maxHeartbeats 8000000 in
theorem sm_start {c : Nat} {x : ssS} {y : mmS} (h : sm_Rel c x y) : (ss_start x).1 = (mm_start y).1 ∧ sm_Rel (c + 1) (ss_start x).2 (mm_start y).2 := by
  obtain ⟨⟨md, du, bi, sl, g0, g1, k0, k1, ch⟩, nw, bt, bn, sa, ck, cu, la, rq, n, wk, td, pl, fl, pn, th, tn⟩ := x
  obtain ⟨⟨md', qu, be, sv, sl', cp, vs, ch'⟩, thr, tm, wk', rq', td', od, fl', th', mn, tr, rn, st, ck', cu', lz⟩ := y
  have h : sm_S c md du bi sl g0 g1 k0 k1 ch nw bt bn sa ck cu la rq n wk td pl fl pn th tn md' qu be sv sl' cp vs ch' tm wk' rq' td' od fl' th' mn tr rn st ck' cu' lz := h
  obtain ⟨⟨rfl, rfl, hdu, ⟨q, b, rfl, rfl, hq, hb'⟩, hV, hC, hH, h2, hk0, hk1, hcp⟩, ⟨hn, hU⟩, ⟨T, rfl, rfl, hT⟩, ⟨hW, hwk⟩, ⟨rfl, rfl, rfl, rfl, rfl, rfl⟩, ⟨hPt, hpn⟩, ⟨kt, hkt, rfl, rfl, hA⟩⟩ := h
  have hE := sm_mono (B := 100000 * c) (B' := 100000 * (c + 1)) (by omega) (show sm_R rq' (100000 * c) md du bi sl g0 g1 k0 k1 ch md (lN q) (lN b) sv sl cp vs ch' from ⟨rfl, rfl, hdu, ⟨q, b, rfl, rfl, hq, hb'⟩, hV, hC, hH, h2, hk0, hk1, hcp⟩)
  have hsame : ∀ thr : Int32, sm_Rel (c + 1) ((md, du, bi, sl, g0, g1, k0, k1, ch), lN T, bt, bn, sa, ck, cu, la, rq, n, wk, td, pl, fl, pn, th, nI kt) ((md, lN q, lN b, sv, sl, cp, vs, ch'), thr, lN T, wk', rq', td', od, fl', th', nI kt, bn, bt, sa, ck, cu, la) := fun _ => ⟨hE, ⟨hn, hU⟩, ⟨T, rfl, rfl, by omega⟩, ⟨hW, hwk⟩, ⟨rfl, rfl, rfl, rfl, rfl, rfl⟩, ⟨hPt, hpn⟩, ⟨kt, hkt, rfl, rfl, hA⟩⟩
  simp only [ss_start, mm_start]
  by_cases m0 : md = 0
  · rw [if_pos m0, if_pos m0]
    have hb := sm_beg hPt 20 0 (-1) _ _ th th' rfl (sm_np0 hPt (sm_G0 hPt)) (fun j hj => absurd hj (by omega))
    rw [nI_0] at hb
    have hld := sm_ld hV hC hk0 hk1 hcp 8 0 wk wk' ch ch' rfl (fun q hq => absurd hq (by omega)) (fun j hj => absurd hj (by omega)) hwk
    have hu := sm_clrU rq rq'
    generalize pt_beg td pl fl 20 0 (pt_pb td pl (-1) 20 1 (-1)) th 0 = B9 at hb ⊢
    generalize mm_st td' od fl' 20 (mm_np td' od (-1) 0 20 1 0) 0 th' 0 = S9 at hb ⊢
    generalize bl_load k0 k1 g0 g1 8 0 wk ch = L9 at hld ⊢
    generalize mm_ld cp vs 8 0 wk' ch' = M9 at hld ⊢
    generalize us_clr 17 0 rq = r9 at hu ⊢
    generalize us_clr 16 1 rq' = r9' at hu ⊢
    obtain ⟨hW9, hH9, hy9⟩ := hld
    rcases hb with ⟨b1, s1, m, hm, b2, s2, hA9⟩ | ⟨b1, s1, m, g, hm1, hm, s2, hA9, b2⟩
    · rw [if_neg (by rw [b1]; decide), if_pos s1]
      refine ⟨rfl, ⟨rfl, rfl, ?_, ⟨T, b, rfl, rfl, by omega, by omega⟩, hV, hC, hH9, fun z => absurd (show (1 : Int32) = 2 from z) (by decide), hk0, hk1, hcp⟩, hu, ⟨T, rfl, rfl, by omega⟩, ⟨hW9, hy9⟩, ⟨rfl, rfl, rfl, rfl, rfl, rfl⟩, ⟨hPt, hpn⟩, ⟨m, by omega, b2, s2, hA9⟩⟩
      show ss_due 0 (lN T) = mm_due r9' 1 (lN T) (lN b)
      rw [sm_d1, ← hu.1]
      rfl
    · rw [if_pos b1, if_neg s1, s2, nI_clamp (by omega), b2]
      obtain ⟨G, G', e1, e2, e3⟩ := sm_en (m - 1) m g S9.2.1 (by omega) (by omega) hA9
      rw [e1, e2]
      refine ⟨rfl, ⟨rfl, rfl, ?_, ⟨q, b, rfl, rfl, by omega, by omega⟩, hV, hC, hH9, fun z => absurd (show (5 : Int32) = 2 from z) (by decide), hk0, hk1, hcp⟩, hu, ⟨T, rfl, rfl, by omega⟩, ⟨hW9, hy9⟩, ⟨rfl, rfl, rfl, rfl, rfl, rfl⟩, ⟨hPt, hpn⟩, ⟨m + (m - 1), by omega, rfl, rfl, e3⟩⟩
      show (-1 : Int64) = mm_due r9' 5 (lN q) (lN b)
      simp [mm_due]
  · rw [if_neg m0, if_neg m0]; exact ⟨rfl, hsame 0⟩
