theorem sm_ph0 {p : Int32} (h : p < 1 ∨ ¬ p ≤ 20) : pt_has p = 0 := by
  unfold pt_has
  rcases h with h | h
  · rw [if_pos h]
  · split
    · rfl
    · rw [if_pos (Int32.not_le.mp h)]
theorem sm_pv {p : Int32} (h1 : ¬ p < 1) (h2 : p ≤ 20) : ∃ v, 1 ≤ v ∧ v ≤ 20 ∧ p = nI v := by
  obtain ⟨j, hj, rfl⟩ := vp_in_of (mm_p h1 h2) (by decide)
  refine ⟨j, ?_, by omega, rfl⟩
  rcases Nat.lt_or_ge j 1 with z | z
  · exact absurd (by rw [show j = 0 by omega]; decide) h1
  · exact z
theorem sm_P1 {td pl fl td' od fl' : ssF} {v o : Nat} {f d : Int32} (hP : sm_P td pl fl td' od fl') (h1 : 1 ≤ v) (h2 : v ≤ 20) (ho : o ≤ 100) (hd : ¬ d = 0) : sm_P (upd td v d) (upd pl v (nI (o * 21 + v))) (upd fl v f) (upd td' v 1) (upd od v (nI o)) (upd fl' v f) := by
  intro p p1 p2
  by_cases e : p = v
  · subst e
    rw [pk_us, pk_us, pk_us, pk_us, pk_us, pk_us]
    exact ⟨⟨fun z => absurd z hd, fun z => absurd z (by decide)⟩, fun _ => ⟨o, ho, rfl, rfl, rfl⟩⟩
  · rw [pk_un e, pk_un e, pk_un e, pk_un e, pk_un e, pk_un e]
    exact hP p p1 p2
theorem sm_upd_self {f : ssF} (v : Nat) : upd f v (f v) = f := by
  funext j
  by_cases e : j = v
  · subst e; rw [pk_us]
  · rw [pk_un e]
set_option maxHeartbeats 8000000 in
theorem sm_init {c : Nat} {x : ssS} {y : mmS} {p_ o_ f_ : Int32} (h : sm_Rel c x y) : (ss_init x p_ o_ f_).1 = (mm_init y p_ o_ f_).1 ∧ sm_Rel (c + 1) (ss_init x p_ o_ f_).2 (mm_init y p_ o_ f_).2 := by
  obtain ⟨⟨md, du, bi, sl, g0, g1, k0, k1, ch⟩, nw, bt, bn, sa, ck, cu, la, rq, n, wk, td, pl, fl, pn, th, tn⟩ := x
  obtain ⟨⟨md', qu, be, sv, sl', cp, vs, ch'⟩, thr, tm, wk', rq', td', od, fl', th', mn, tr, rn, st, ck', cu', lz⟩ := y
  have h : sm_S c md du bi sl g0 g1 k0 k1 ch nw bt bn sa ck cu la rq n wk td pl fl pn th tn md' qu be sv sl' cp vs ch' tm wk' rq' td' od fl' th' mn tr rn st ck' cu' lz := h
  obtain ⟨⟨rfl, rfl, hdu, ⟨q, b, rfl, rfl, hq, hb'⟩, hV, hC, hH, h2, hk0, hk1, hcp⟩, ⟨hn, hU⟩, ⟨T, rfl, rfl, hT⟩, ⟨hW, hwk⟩, ⟨rfl, rfl, rfl, rfl, rfl, rfl⟩, ⟨hPt, hpn⟩, ⟨kt, hkt, rfl, rfl, hA⟩⟩ := h
  have hE := sm_mono (B := 100000 * c) (B' := 100000 * (c + 1)) (by omega) (show sm_R rq' (100000 * c) md du bi sl g0 g1 k0 k1 ch md (lN q) (lN b) sv sl cp vs ch' from ⟨rfl, rfl, hdu, ⟨q, b, rfl, rfl, hq, hb'⟩, hV, hC, hH, h2, hk0, hk1, hcp⟩)
  have hsame : ∀ thr : Int32, sm_Rel (c + 1) ((md, du, bi, sl, g0, g1, k0, k1, ch), lN T, bt, bn, sa, ck, cu, la, rq, n, wk, td, pl, fl, pn, th, nI kt) ((md, lN q, lN b, sv, sl, cp, vs, ch'), thr, lN T, wk', rq', td', od, fl', th', nI kt, bn, bt, sa, ck, cu, la) := fun _ => ⟨hE, ⟨hn, hU⟩, ⟨T, rfl, rfl, by omega⟩, ⟨hW, hwk⟩, ⟨rfl, rfl, rfl, rfl, rfl, rfl⟩, ⟨hPt, hpn⟩, ⟨kt, hkt, rfl, rfl, hA⟩⟩
  simp only [ss_init, mm_init]
  by_cases c1 : p_ < 1
  · rw [if_pos (sm_ph0 (Or.inl c1)), if_pos c1]; exact ⟨rfl, hsame 0⟩
  · rw [if_neg c1]
    by_cases c20 : p_ ≤ 20
    · obtain ⟨v, v1, v2, rfl⟩ := sm_pv c1 c20
      rw [if_neg (sm_hasP v1 v2), if_pos c20]
      by_cases o0 : o_ < 0
      · rw [if_pos o0, if_pos o0]; exact ⟨rfl, hsame 0⟩
      · rw [if_neg o0, if_neg o0]
        by_cases o1 : o_ ≤ 100
        · obtain ⟨o, ho, rfl⟩ := nI_of2 (M := 100) (n := 100) (by decide) o0 o1
          rw [if_pos o1, if_pos o1]
          by_cases m0 : md = 0
          · rw [if_pos m0, if_pos m0]
            have hcl : (nI v).toNatClampNeg = v := nI_clamp (by omega)
            have hpl : nI o * 21 + nI v = nI (o * 21 + v) := by rw [show (21 : Int32) = nI 21 from rfl, pk_mul, nI_add]
            have hcu := sm_cn_upd (f := td') (u := v) (v := 1) 20 1 v1 (by omega)
            have h20 := sm_cn_le td' 20 1
            rw [if_neg (show ¬ (1 : Int32) = 0 by decide)] at hcu
            have htd := (hPt v v1 v2).1
            unfold pt_tell
            rw [if_neg (sm_hasP v1 v2), hcl, hpl, sm_b1]
            by_cases z : td v = 0
            · rw [if_pos z]
              rw [if_pos (htd.mp z)] at hcu
              have hc1 : pn + 1 = bl_cnt (upd td' v 1) 20 1 0 := by
                rw [hpn, sm_cnt0, sm_cnt0, nI_1]
                exact congrArg nI (by omega)
              exact ⟨hc1, hE, ⟨hn, hU⟩, ⟨T, rfl, rfl, by omega⟩, ⟨hW, hwk⟩, ⟨rfl, rfl, rfl, rfl, rfl, rfl⟩, ⟨sm_P1 hPt v1 v2 ho (by decide), hc1⟩, ⟨kt, hkt, rfl, rfl, hA⟩⟩
            · rw [if_neg z]
              rw [if_neg (fun q => z (htd.mpr q))] at hcu
              have hc1 : pn = bl_cnt (upd td' v 1) 20 1 0 := by
                rw [hpn, sm_cnt0, sm_cnt0]
                exact congrArg nI (by omega)
              have hP2 : sm_P td (upd pl v (nI (o * 21 + v))) (upd fl v (vp_nar .boolean f_)) (upd td' v 1) (upd od v (nI o)) (upd fl' v (vp_nar .boolean f_)) := by
                have := sm_P1 (d := td v) (f := vp_nar .boolean f_) hPt v1 v2 ho z
                rwa [sm_upd_self] at this
              exact ⟨hc1, hE, ⟨hn, hU⟩, ⟨T, rfl, rfl, by omega⟩, ⟨hW, hwk⟩, ⟨rfl, rfl, rfl, rfl, rfl, rfl⟩, ⟨hP2, hc1⟩, ⟨kt, hkt, rfl, rfl, hA⟩⟩
          · rw [if_neg m0, if_neg m0]; exact ⟨rfl, hsame 0⟩
        · rw [if_neg o1, if_neg o1]; exact ⟨rfl, hsame 0⟩
    · rw [if_pos (sm_ph0 (Or.inr c20)), if_neg c20]; exact ⟨rfl, hsame 0⟩
theorem sm_bh0 {n : Int32} (h : n < 0 ∨ ¬ n < 8) : bl_has n = 0 := by
  unfold bl_has
  rcases h with h | h
  · rw [if_pos h]
  · split
    · rfl
    · rw [if_pos (Int32.not_lt.mp h)]
theorem sm_bo0 {n : Int32} (h : n < 0 ∨ ¬ n < 16) : bl_oct n = 0 := by
  unfold bl_oct
  rcases h with h | h
  · rw [if_pos h]
  · split
    · rfl
    · rw [if_pos (Int32.not_lt.mp h)]
theorem sm_bv {n : Int32} (h1 : ¬ n < 0) (h2 : n < 8) : ∃ v, v < 8 ∧ n = nI v := vp_in_of (mm_i8 h1 h2) (by decide)
theorem sm_octI {i : Nat} (h : i < 16) : ¬ bl_oct (nI i) = 0 := by
  unfold bl_oct
  have h8 : ¬ (16 : Int32) ≤ nI i := nI_ge (b := 16) h (by decide)
  rw [if_neg (nI_pos (by omega)), if_neg h8]
  decide
set_option maxHeartbeats 8000000 in
theorem sm_block {c : Nat} {x : ssS} {y : mmS} {n_ : Int32} (h : sm_Rel c x y) : (ss_block x n_).1 = (mm_block y n_).1 ∧ sm_Rel (c + 1) (ss_block x n_).2 (mm_block y n_).2 := by
  obtain ⟨⟨md, du, bi, sl, g0, g1, k0, k1, ch⟩, nw, bt, bn, sa, ck, cu, la, rq, n, wk, td, pl, fl, pn, th, tn⟩ := x
  obtain ⟨⟨md', qu, be, sv, sl', cp, vs, ch'⟩, thr, tm, wk', rq', td', od, fl', th', mn, tr, rn, st, ck', cu', lz⟩ := y
  have h : sm_S c md du bi sl g0 g1 k0 k1 ch nw bt bn sa ck cu la rq n wk td pl fl pn th tn md' qu be sv sl' cp vs ch' tm wk' rq' td' od fl' th' mn tr rn st ck' cu' lz := h
  obtain ⟨⟨rfl, rfl, hdu, ⟨q, b, rfl, rfl, hq, hb'⟩, hV, hC, hH, h2, hk0, hk1, hcp⟩, ⟨hn, hU⟩, ⟨T, rfl, rfl, hT⟩, ⟨hW, hwk⟩, ⟨rfl, rfl, rfl, rfl, rfl, rfl⟩, ⟨hPt, hpn⟩, ⟨kt, hkt, rfl, rfl, hA⟩⟩ := h
  have hE := sm_mono (B := 100000 * c) (B' := 100000 * (c + 1)) (by omega) (show sm_R rq' (100000 * c) md du bi sl g0 g1 k0 k1 ch md (lN q) (lN b) sv sl cp vs ch' from ⟨rfl, rfl, hdu, ⟨q, b, rfl, rfl, hq, hb'⟩, hV, hC, hH, h2, hk0, hk1, hcp⟩)
  have hsame : ∀ thr : Int32, sm_Rel (c + 1) ((md, du, bi, sl, g0, g1, k0, k1, ch), lN T, bt, bn, sa, ck, cu, la, rq, n, wk, td, pl, fl, pn, th, nI kt) ((md, lN q, lN b, sv, sl, cp, vs, ch'), thr, lN T, wk', rq', td', od, fl', th', nI kt, bn, bt, sa, ck, cu, la) := fun _ => ⟨hE, ⟨hn, hU⟩, ⟨T, rfl, rfl, by omega⟩, ⟨hW, hwk⟩, ⟨rfl, rfl, rfl, rfl, rfl, rfl⟩, ⟨hPt, hpn⟩, ⟨kt, hkt, rfl, rfl, hA⟩⟩
  simp only [ss_block, mm_block]
  by_cases c1 : n_ < 0
  · rw [if_pos (sm_bh0 (Or.inl c1)), if_pos c1]; exact ⟨rfl, hsame 0⟩
  · rw [if_neg c1]
    by_cases c8 : n_ < 8
    · obtain ⟨v, v1, rfl⟩ := sm_bv c1 c8
      rw [if_neg (bl_hasI v1), if_pos c8]
      unfold bl_is
      rw [if_neg (bl_hasI v1), nI_clamp (n := v) (by omega), hH v v1]
      by_cases z : ch' v = 0
      · rw [if_pos z, if_pos z, if_pos rfl]; exact ⟨rfl, hsame 0⟩
      · rw [if_neg z, if_neg z, if_neg (by decide)]; exact ⟨rfl, hsame 0⟩
    · rw [if_pos (sm_bh0 (Or.inr c8)), if_neg c8]; exact ⟨rfl, hsame 0⟩
theorem sm_W1 {wk wk' : ssF} {j : Nat} {z : Int32} (h : sm_W wk wk') : sm_W (upd wk j z) (upd wk' j z) := by
  intro a ha
  by_cases e : a = j
  · subst e; rw [pk_us, pk_us]
  · rw [pk_un e, pk_un e]; exact h a ha
set_option maxHeartbeats 8000000 in
theorem sm_write {c : Nat} {x : ssS} {y : mmS} {n_ i_ b_ : Int32} (h : sm_Rel c x y) : (ss_write x n_ i_ b_).1 = (mm_write y n_ i_ b_).1 ∧ sm_Rel (c + 1) (ss_write x n_ i_ b_).2 (mm_write y n_ i_ b_).2 := by
  obtain ⟨⟨md, du, bi, sl, g0, g1, k0, k1, ch⟩, nw, bt, bn, sa, ck, cu, la, rq, n, wk, td, pl, fl, pn, th, tn⟩ := x
  obtain ⟨⟨md', qu, be, sv, sl', cp, vs, ch'⟩, thr, tm, wk', rq', td', od, fl', th', mn, tr, rn, st, ck', cu', lz⟩ := y
  have h : sm_S c md du bi sl g0 g1 k0 k1 ch nw bt bn sa ck cu la rq n wk td pl fl pn th tn md' qu be sv sl' cp vs ch' tm wk' rq' td' od fl' th' mn tr rn st ck' cu' lz := h
  obtain ⟨⟨rfl, rfl, hdu, ⟨q, b, rfl, rfl, hq, hb'⟩, hV, hC, hH, h2, hk0, hk1, hcp⟩, ⟨hn, hU⟩, ⟨T, rfl, rfl, hT⟩, ⟨hW, hwk⟩, ⟨rfl, rfl, rfl, rfl, rfl, rfl⟩, ⟨hPt, hpn⟩, ⟨kt, hkt, rfl, rfl, hA⟩⟩ := h
  have hE := sm_mono (B := 100000 * c) (B' := 100000 * (c + 1)) (by omega) (show sm_R rq' (100000 * c) md du bi sl g0 g1 k0 k1 ch md (lN q) (lN b) sv sl cp vs ch' from ⟨rfl, rfl, hdu, ⟨q, b, rfl, rfl, hq, hb'⟩, hV, hC, hH, h2, hk0, hk1, hcp⟩)
  have hsame : ∀ thr : Int32, sm_Rel (c + 1) ((md, du, bi, sl, g0, g1, k0, k1, ch), lN T, bt, bn, sa, ck, cu, la, rq, n, wk, td, pl, fl, pn, th, nI kt) ((md, lN q, lN b, sv, sl, cp, vs, ch'), thr, lN T, wk', rq', td', od, fl', th', nI kt, bn, bt, sa, ck, cu, la) := fun _ => ⟨hE, ⟨hn, hU⟩, ⟨T, rfl, rfl, by omega⟩, ⟨hW, hwk⟩, ⟨rfl, rfl, rfl, rfl, rfl, rfl⟩, ⟨hPt, hpn⟩, ⟨kt, hkt, rfl, rfl, hA⟩⟩
  simp only [ss_write, mm_write]
  by_cases c1 : n_ < 0
  · rw [if_pos (sm_bh0 (Or.inl c1)), if_pos c1]; exact ⟨rfl, hsame 0⟩
  · rw [if_neg c1]
    by_cases c8 : n_ < 8
    · obtain ⟨v, v1, rfl⟩ := sm_bv c1 c8
      rw [if_neg (bl_hasI v1), if_pos c8]
      by_cases i0 : i_ < 0
      · rw [if_pos (sm_bo0 (Or.inl i0)), if_pos i0]; exact ⟨rfl, hsame 0⟩
      · rw [if_neg i0]
        by_cases i16 : i_ < 16
        · obtain ⟨k, hk, rfl⟩ := mm_i16 i0 i16
          rw [if_neg (sm_octI hk), if_pos i16]
          unfold bl_put
          rw [if_neg (bl_hasI v1), if_neg (sm_octI hk)]
          have e1 : (nI v * 16 + nI k).toNatClampNeg = v * 16 + k := by rw [bl_16, nI_add, nI_clamp (by omega)]
          have e2 : (16 * nI v + nI k).toNatClampNeg = v * 16 + k := by
            rw [mm_16, nI_add, nI_clamp (by omega)]
            omega
          have e3 : (nI v).toNatClampNeg = v := nI_clamp (by omega)
          rw [e1, e2, e3]
          have key : ¬ md = 2 → sm_Rel (c + 1) ((md, du, bi, sl, g0, g1, k0, k1, upd ch v (vp_nar .boolean 1)), lN T, bt, bn, sa, ck, cu, la, rq, n, upd wk (v * 16 + k) (vp_nar .byte b_), td, pl, fl, pn, th, nI kt) ((md, lN q, lN b, sv, sl, cp, vs, upd ch' v (vp_nar .boolean 1)), 0, lN T, upd wk' (v * 16 + k) (vp_nar .byte b_), rq', td', od, fl', th', nI kt, bn, bt, sa, ck, cu, la) := fun hm =>
            ⟨⟨rfl, rfl, hdu, ⟨q, b, rfl, rfl, by omega, by omega⟩, hV, hC, sm_H1 hH, fun z => absurd z hm, hk0, hk1, hcp⟩, ⟨hn, hU⟩, ⟨T, rfl, rfl, by omega⟩, ⟨sm_W1 hW, my_by_upd hwk _ _⟩, ⟨rfl, rfl, rfl, rfl, rfl, rfl⟩, ⟨hPt, hpn⟩, ⟨kt, hkt, rfl, rfl, hA⟩⟩
          by_cases m1 : md = 1
          · rw [if_pos m1, if_pos m1]
            exact ⟨rfl, key (by rw [m1]; decide)⟩
          · rw [if_neg m1, if_neg m1]
            by_cases m5 : md = 5
            · rw [if_pos m5, if_pos m5]
              exact ⟨rfl, key (by rw [m5]; decide)⟩
            · rw [if_neg m5, if_neg m5]; exact ⟨rfl, hsame 0⟩
        · rw [if_pos (sm_bo0 (Or.inr i16)), if_neg i16]; exact ⟨rfl, hsame 0⟩
    · rw [if_pos (sm_bh0 (Or.inr c8)), if_neg c8]; exact ⟨rfl, hsame 0⟩
set_option maxHeartbeats 8000000 in
theorem sm_bank {c : Nat} {x : ssS} {y : mmS} {wh : Int32} (h : sm_Rel c x y) : (ss_bank x wh).1 = (mm_bank y wh).1 ∧ sm_Rel (c + 1) (ss_bank x wh).2 (mm_bank y wh).2 := by
  obtain ⟨⟨md, du, bi, sl, g0, g1, k0, k1, ch⟩, nw, bt, bn, sa, ck, cu, la, rq, n, wk, td, pl, fl, pn, th, tn⟩ := x
  obtain ⟨⟨md', qu, be, sv, sl', cp, vs, ch'⟩, thr, tm, wk', rq', td', od, fl', th', mn, tr, rn, st, ck', cu', lz⟩ := y
  have h : sm_S c md du bi sl g0 g1 k0 k1 ch nw bt bn sa ck cu la rq n wk td pl fl pn th tn md' qu be sv sl' cp vs ch' tm wk' rq' td' od fl' th' mn tr rn st ck' cu' lz := h
  obtain ⟨⟨rfl, rfl, hdu, ⟨q, b, rfl, rfl, hq, hb'⟩, hV, hC, hH, h2, hk0, hk1, hcp⟩, ⟨hn, hU⟩, ⟨T, rfl, rfl, hT⟩, ⟨hW, hwk⟩, ⟨rfl, rfl, rfl, rfl, rfl, rfl⟩, ⟨hPt, hpn⟩, ⟨kt, hkt, rfl, rfl, hA⟩⟩ := h
  have hE := sm_mono (B := 100000 * c) (B' := 100000 * (c + 1)) (by omega) (show sm_R rq' (100000 * c) md du bi sl g0 g1 k0 k1 ch md (lN q) (lN b) sv sl cp vs ch' from ⟨rfl, rfl, hdu, ⟨q, b, rfl, rfl, hq, hb'⟩, hV, hC, hH, h2, hk0, hk1, hcp⟩)
  have hsame : ∀ thr : Int32, sm_Rel (c + 1) ((md, du, bi, sl, g0, g1, k0, k1, ch), lN T, bt, bn, sa, ck, cu, la, rq, n, wk, td, pl, fl, pn, th, nI kt) ((md, lN q, lN b, sv, sl, cp, vs, ch'), thr, lN T, wk', rq', td', od, fl', th', nI kt, bn, bt, sa, ck, cu, la) := fun _ => ⟨hE, ⟨hn, hU⟩, ⟨T, rfl, rfl, by omega⟩, ⟨hW, hwk⟩, ⟨rfl, rfl, rfl, rfl, rfl, rfl⟩, ⟨hPt, hpn⟩, ⟨kt, hkt, rfl, rfl, hA⟩⟩
  simp only [ss_bank, mm_bank]
  by_cases z : wh = 0
  · rw [if_pos z, if_pos z]
    exact ⟨rfl, hE, ⟨hn, hU⟩, ⟨T, rfl, rfl, by omega⟩, ⟨hW, hwk⟩, ⟨rfl, rfl, rfl, rfl, rfl, rfl⟩, ⟨hPt, hpn⟩, ⟨kt, hkt, rfl, rfl, hA⟩⟩
  · rw [if_neg z, if_neg z]; exact ⟨rfl, hsame 0⟩
set_option maxHeartbeats 8000000 in
theorem sm_time {c : Nat} {x : ssS} {y : mmS} {wt : Int32} (h : sm_Rel c x y) : (ss_time x wt).1 = (mm_time y wt).1 ∧ sm_Rel (c + 1) (ss_time x wt).2 (mm_time y wt).2 := by
  obtain ⟨⟨md, du, bi, sl, g0, g1, k0, k1, ch⟩, nw, bt, bn, sa, ck, cu, la, rq, n, wk, td, pl, fl, pn, th, tn⟩ := x
  obtain ⟨⟨md', qu, be, sv, sl', cp, vs, ch'⟩, thr, tm, wk', rq', td', od, fl', th', mn, tr, rn, st, ck', cu', lz⟩ := y
  have h : sm_S c md du bi sl g0 g1 k0 k1 ch nw bt bn sa ck cu la rq n wk td pl fl pn th tn md' qu be sv sl' cp vs ch' tm wk' rq' td' od fl' th' mn tr rn st ck' cu' lz := h
  obtain ⟨⟨rfl, rfl, hdu, ⟨q, b, rfl, rfl, hq, hb'⟩, hV, hC, hH, h2, hk0, hk1, hcp⟩, ⟨hn, hU⟩, ⟨T, rfl, rfl, hT⟩, ⟨hW, hwk⟩, ⟨rfl, rfl, rfl, rfl, rfl, rfl⟩, ⟨hPt, hpn⟩, ⟨kt, hkt, rfl, rfl, hA⟩⟩ := h
  have hE := sm_mono (B := 100000 * c) (B' := 100000 * (c + 1)) (by omega) (show sm_R rq' (100000 * c) md du bi sl g0 g1 k0 k1 ch md (lN q) (lN b) sv sl cp vs ch' from ⟨rfl, rfl, hdu, ⟨q, b, rfl, rfl, hq, hb'⟩, hV, hC, hH, h2, hk0, hk1, hcp⟩)
  have hsame : ∀ thr : Int32, sm_Rel (c + 1) ((md, du, bi, sl, g0, g1, k0, k1, ch), lN T, bt, bn, sa, ck, cu, la, rq, n, wk, td, pl, fl, pn, th, nI kt) ((md, lN q, lN b, sv, sl, cp, vs, ch'), thr, lN T, wk', rq', td', od, fl', th', nI kt, bn, bt, sa, ck, cu, la) := fun _ => ⟨hE, ⟨hn, hU⟩, ⟨T, rfl, rfl, by omega⟩, ⟨hW, hwk⟩, ⟨rfl, rfl, rfl, rfl, rfl, rfl⟩, ⟨hPt, hpn⟩, ⟨kt, hkt, rfl, rfl, hA⟩⟩
  simp only [ss_time, mm_time]
  by_cases l0 : wt < 0
  · have hne : ∀ k : Nat, k ≤ 6 → ¬ wt = nI k := fun k hk e => absurd (e ▸ l0) (nI_pos (by omega))
    rw [if_neg (show ¬ wt = 0 from hne 0 (by omega)), if_neg (show ¬ wt = 1 from hne 1 (by omega)), if_neg (show ¬ wt = 2 from hne 2 (by omega)), if_neg (show ¬ wt = 3 from hne 3 (by omega)), if_neg (show ¬ wt = 4 from hne 4 (by omega)), if_neg (show ¬ wt = 5 from hne 5 (by omega)), if_neg (show ¬ wt = 6 from hne 6 (by omega)), if_pos l0]
    exact ⟨rfl, hsame 0⟩
  · rw [if_neg l0]
    by_cases l6 : wt ≤ 6
    · rw [if_pos l6]
      obtain ⟨k, hk, rfl⟩ := nI_of2 (M := 6) (n := 6) (by decide) l0 l6
      have hk7 : k = 0 ∨ k = 1 ∨ k = 2 ∨ k = 3 ∨ k = 4 ∨ k = 5 ∨ k = 6 := by omega
      rcases hk7 with rfl | rfl | rfl | rfl | rfl | rfl | rfl
      · exact ⟨rfl, hsame 0⟩
      · exact ⟨rfl, hsame 0⟩
      · exact ⟨rfl, hsame 0⟩
      · exact ⟨rfl, hsame 0⟩
      · exact ⟨rfl, hsame 0⟩
      · exact ⟨rfl, hsame 0⟩
      · exact ⟨rfl, hsame 0⟩
    · have hne : ∀ k : Nat, k ≤ 6 → ¬ wt = nI k := fun k hk e => l6 (by rw [e]; exact nI_le (b := 6) hk (by decide))
      rw [if_neg (show ¬ wt = 0 from hne 0 (by omega)), if_neg (show ¬ wt = 1 from hne 1 (by omega)), if_neg (show ¬ wt = 2 from hne 2 (by omega)), if_neg (show ¬ wt = 3 from hne 3 (by omega)), if_neg (show ¬ wt = 4 from hne 4 (by omega)), if_neg (show ¬ wt = 5 from hne 5 (by omega)), if_neg (show ¬ wt = 6 from hne 6 (by omega)), if_neg l6]
      exact ⟨rfl, hsame 0⟩
set_option maxHeartbeats 8000000 in
theorem sm_order {c : Nat} {x : ssS} {y : mmS} {i_ : Int32} (h : sm_Rel c x y) : (ss_order x i_).1 = (mm_order y i_).1 ∧ sm_Rel (c + 1) (ss_order x i_).2 (mm_order y i_).2 := by
  obtain ⟨⟨md, du, bi, sl, g0, g1, k0, k1, ch⟩, nw, bt, bn, sa, ck, cu, la, rq, n, wk, td, pl, fl, pn, th, tn⟩ := x
  obtain ⟨⟨md', qu, be, sv, sl', cp, vs, ch'⟩, thr, tm, wk', rq', td', od, fl', th', mn, tr, rn, st, ck', cu', lz⟩ := y
  have h : sm_S c md du bi sl g0 g1 k0 k1 ch nw bt bn sa ck cu la rq n wk td pl fl pn th tn md' qu be sv sl' cp vs ch' tm wk' rq' td' od fl' th' mn tr rn st ck' cu' lz := h
  obtain ⟨⟨rfl, rfl, hdu, ⟨q, b, rfl, rfl, hq, hb'⟩, hV, hC, hH, h2, hk0, hk1, hcp⟩, ⟨hn, hU⟩, ⟨T, rfl, rfl, hT⟩, ⟨hW, hwk⟩, ⟨rfl, rfl, rfl, rfl, rfl, rfl⟩, ⟨hPt, hpn⟩, ⟨kt, hkt, rfl, rfl, hA⟩⟩ := h
  have hE := sm_mono (B := 100000 * c) (B' := 100000 * (c + 1)) (by omega) (show sm_R rq' (100000 * c) md du bi sl g0 g1 k0 k1 ch md (lN q) (lN b) sv sl cp vs ch' from ⟨rfl, rfl, hdu, ⟨q, b, rfl, rfl, hq, hb'⟩, hV, hC, hH, h2, hk0, hk1, hcp⟩)
  have hsame : ∀ thr : Int32, sm_Rel (c + 1) ((md, du, bi, sl, g0, g1, k0, k1, ch), lN T, bt, bn, sa, ck, cu, la, rq, n, wk, td, pl, fl, pn, th, nI kt) ((md, lN q, lN b, sv, sl, cp, vs, ch'), thr, lN T, wk', rq', td', od, fl', th', nI kt, bn, bt, sa, ck, cu, la) := fun _ => ⟨hE, ⟨hn, hU⟩, ⟨T, rfl, rfl, by omega⟩, ⟨hW, hwk⟩, ⟨rfl, rfl, rfl, rfl, rfl, rfl⟩, ⟨hPt, hpn⟩, ⟨kt, hkt, rfl, rfl, hA⟩⟩
  simp only [ss_order, mm_order]
  by_cases i0 : i_ < 0
  · rw [if_pos i0]
    exact ⟨by unfold pt_thing; rw [if_pos i0], hsame 0⟩
  · rw [if_neg i0]
    by_cases im : i_ < nI kt
    · rw [if_pos im]
      obtain ⟨j, hj, rfl⟩ := vp_in_of (mm_th ⟨kt, hkt, rfl⟩ i0 im) (by decide)
      have hjk : j < kt := (nI_ltI (by omega) (by omega)).mp im
      exact ⟨by rw [sm_thing hjk hkt, nI_clamp (by omega)]; exact hA j hjk, hsame 0⟩
    · rw [if_neg im]
      exact ⟨by unfold pt_thing; rw [if_neg i0, if_pos (Int32.not_lt.mp im)], hsame 0⟩
set_option maxHeartbeats 8000000 in
/-- kept: what the class throws or answers, and the reference -/
theorem sm_kept {c : Nat} {x : ssS} {y : mmS} {b_ i_ : Int32} (h : sm_Rel c x y) : (((bl_has b_ = 0 ∨ bl_oct i_ = 0) ∧ (mm_kept y b_ i_).2.2.1 = 1) ∨ (¬ bl_has b_ = 0 ∧ ¬ bl_oct i_ = 0 ∧ (mm_kept y b_ i_).2.2.1 = 0 ∧ bl_kept x.1.2.2.2.2.2.2.1 x.1.2.2.2.2.2.2.2.1 x.1.2.2.2.2.1 x.1.2.2.2.2.2.1 b_ i_ = (mm_kept y b_ i_).1)) ∧ sm_Rel (c + 1) x (mm_kept y b_ i_).2 := by
  obtain ⟨⟨md, du, bi, sl, g0, g1, k0, k1, ch⟩, nw, bt, bn, sa, ck, cu, la, rq, n, wk, td, pl, fl, pn, th, tn⟩ := x
  obtain ⟨⟨md', qu, be, sv, sl', cp, vs, ch'⟩, thr, tm, wk', rq', td', od, fl', th', mn, tr, rn, st, ck', cu', lz⟩ := y
  have h : sm_S c md du bi sl g0 g1 k0 k1 ch nw bt bn sa ck cu la rq n wk td pl fl pn th tn md' qu be sv sl' cp vs ch' tm wk' rq' td' od fl' th' mn tr rn st ck' cu' lz := h
  obtain ⟨⟨rfl, rfl, hdu, ⟨q, b, rfl, rfl, hq, hb'⟩, hV, hC, hH, h2, hk0, hk1, hcp⟩, ⟨hn, hU⟩, ⟨T, rfl, rfl, hT⟩, ⟨hW, hwk⟩, ⟨rfl, rfl, rfl, rfl, rfl, rfl⟩, ⟨hPt, hpn⟩, ⟨kt, hkt, rfl, rfl, hA⟩⟩ := h
  have hE := sm_mono (B := 100000 * c) (B' := 100000 * (c + 1)) (by omega) (show sm_R rq' (100000 * c) md du bi sl g0 g1 k0 k1 ch md (lN q) (lN b) sv sl cp vs ch' from ⟨rfl, rfl, hdu, ⟨q, b, rfl, rfl, hq, hb'⟩, hV, hC, hH, h2, hk0, hk1, hcp⟩)
  have hsame : ∀ thr : Int32, sm_Rel (c + 1) ((md, du, bi, sl, g0, g1, k0, k1, ch), lN T, bt, bn, sa, ck, cu, la, rq, n, wk, td, pl, fl, pn, th, nI kt) ((md, lN q, lN b, sv, sl, cp, vs, ch'), thr, lN T, wk', rq', td', od, fl', th', nI kt, bn, bt, sa, ck, cu, la) := fun _ => ⟨hE, ⟨hn, hU⟩, ⟨T, rfl, rfl, by omega⟩, ⟨hW, hwk⟩, ⟨rfl, rfl, rfl, rfl, rfl, rfl⟩, ⟨hPt, hpn⟩, ⟨kt, hkt, rfl, rfl, hA⟩⟩
  simp only [mm_kept]
  by_cases c1 : b_ < 0
  · rw [if_pos c1]; exact ⟨Or.inl ⟨Or.inl (sm_bh0 (Or.inl c1)), rfl⟩, hsame 1⟩
  · rw [if_neg c1]
    by_cases c8 : 8 ≤ b_
    · rw [if_pos c8]; exact ⟨Or.inl ⟨Or.inl (sm_bh0 (Or.inr (Int32.not_lt.mpr c8))), rfl⟩, hsame 1⟩
    · rw [if_neg c8]
      by_cases i0 : i_ < 0
      · rw [if_pos i0]; exact ⟨Or.inl ⟨Or.inr (sm_bo0 (Or.inl i0)), rfl⟩, hsame 1⟩
      · rw [if_neg i0]
        by_cases i16 : i_ < 16
        · rw [if_pos i16]
          obtain ⟨v, v1, rfl⟩ := sm_bv c1 (Int32.not_le.mp c8)
          obtain ⟨k, hk, rfl⟩ := mm_i16 i0 i16
          refine ⟨Or.inr ⟨bl_hasI v1, sm_octI hk, rfl, ?_⟩, hsame 0⟩
          unfold bl_kept
          rw [if_neg (bl_hasI v1), if_neg (sm_octI hk), sm_kc hV v1]
          have e1 : (nI v * 16 + nI k).toNatClampNeg = v * 16 + k := by rw [bl_16, nI_add, nI_clamp (by omega)]
          rw [e1]
          rcases bl_kc_or g0 g1 (nI v) with z | z
          · rw [z, if_pos rfl]
            have e2 : (16 * (2 * nI v + 0) + nI k).toNatClampNeg = 16 * (2 * v) + k := by
              rw [mm_2, show (0 : Int32) = nI 0 from rfl, nI_add, mm_16, nI_add, nI_clamp (by omega)]
              omega
            rw [e2]
            exact (hC v v1 k hk).1.symm
          · rw [z, if_neg (by decide)]
            have e2 : (16 * (2 * nI v + 1) + nI k).toNatClampNeg = 16 * (2 * v + 1) + k := by
              rw [mm_2, nI_1, mm_16, nI_add, nI_clamp (by omega)]
            rw [e2]
            exact (hC v v1 k hk).2.symm
        · rw [if_neg i16]; exact ⟨Or.inl ⟨Or.inr (sm_bo0 (Or.inr i16)), rfl⟩, hsame 1⟩
