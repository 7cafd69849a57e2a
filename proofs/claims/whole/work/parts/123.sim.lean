/-! The two whole states -/
def sm_U (n : Int32) (rq rq' : ssF) : Prop := n = bl_cnt rq' 16 1 0 ∧ ∀ u, 1 ≤ u → u ≤ 16 → rq u = rq' u ∧ (rq' u = 0 ∨ rq' u = 1)
def sm_Th (th : ssF) (tn : Int32) (th' : ssF) (mn : Int32) : Prop := ∃ k, k ≤ 40 ∧ tn = nI k ∧ mn = nI k ∧ sm_A th th' k
def sm_S (c : Nat) (md : Int32) (du : Int64) (bi : Int32) (sl : Int64) (g0 : ssF) (g1 : ssF) (k0 : ssF) (k1 : ssF) (ch : ssF) (nw : Int64) (bt : Int32) (bn : Int32) (sa : Int64) (ck : Int64) (cu : Int64) (la : Int64) (rq : ssF) (n : Int32) (wk : ssF) (td : ssF) (pl : ssF) (fl : ssF) (pn : Int32) (th : ssF) (tn : Int32) (md' : Int32) (qu : Int64) (be : Int64) (sv : Int32) (sl' : Int64) (cp : ssF) (vs : ssF) (ch' : ssF) (tm : Int64) (wk' : ssF) (rq' : ssF) (td' : ssF) (od : ssF) (fl' : ssF) (th' : ssF) (mn : Int32) (tr : Int32) (rn : Int32) (st : Int64) (ck' : Int64) (cu' : Int64) (lz : Int64) : Prop :=
  sm_R rq' (100000 * c) md du bi sl g0 g1 k0 k1 ch md' qu be sv sl' cp vs ch' ∧ sm_U n rq rq' ∧ (∃ T, nw = lN T ∧ tm = lN T ∧ T ≤ 100000 * c) ∧ (sm_W wk wk' ∧ my_by wk) ∧ (bt = rn ∧ bn = tr ∧ sa = st ∧ ck = ck' ∧ cu = cu' ∧ la = lz) ∧ (sm_P td pl fl td' od fl' ∧ pn = bl_cnt td' 20 1 0) ∧ sm_Th th tn th' mn
def sm_Rel (c : Nat) (x : ssS) (y : mmS) : Prop := sm_S c x.1.1 x.1.2.1 x.1.2.2.1 x.1.2.2.2.1 x.1.2.2.2.2.1 x.1.2.2.2.2.2.1 x.1.2.2.2.2.2.2.1 x.1.2.2.2.2.2.2.2.1 x.1.2.2.2.2.2.2.2.2 x.2.1 x.2.2.1 x.2.2.2.1 x.2.2.2.2.1 x.2.2.2.2.2.1 x.2.2.2.2.2.2.1 x.2.2.2.2.2.2.2.1 x.2.2.2.2.2.2.2.2.1 x.2.2.2.2.2.2.2.2.2.1 x.2.2.2.2.2.2.2.2.2.2.1 x.2.2.2.2.2.2.2.2.2.2.2.1 x.2.2.2.2.2.2.2.2.2.2.2.2.1 x.2.2.2.2.2.2.2.2.2.2.2.2.2.1 x.2.2.2.2.2.2.2.2.2.2.2.2.2.2.1 x.2.2.2.2.2.2.2.2.2.2.2.2.2.2.2.1 x.2.2.2.2.2.2.2.2.2.2.2.2.2.2.2.2 y.1.1 y.1.2.1 y.1.2.2.1 y.1.2.2.2.1 y.1.2.2.2.2.1 y.1.2.2.2.2.2.1 y.1.2.2.2.2.2.2.1 y.1.2.2.2.2.2.2.2 y.2.2.1 y.2.2.2.1 y.2.2.2.2.1 y.2.2.2.2.2.1 y.2.2.2.2.2.2.1 y.2.2.2.2.2.2.2.1 y.2.2.2.2.2.2.2.2.1 y.2.2.2.2.2.2.2.2.2.1 y.2.2.2.2.2.2.2.2.2.2.1 y.2.2.2.2.2.2.2.2.2.2.2.1 y.2.2.2.2.2.2.2.2.2.2.2.2.1 y.2.2.2.2.2.2.2.2.2.2.2.2.2.1 y.2.2.2.2.2.2.2.2.2.2.2.2.2.2.1 y.2.2.2.2.2.2.2.2.2.2.2.2.2.2.2
theorem sm_mono {rq : ssF} {B B' : Nat} (hB : B ≤ B') {md : Int32} {du : Int64} {bi : Int32} {sl : Int64} {g0 g1 k0 k1 ch : ssF} {md' : Int32} {qu be : Int64} {sv : Int32} {sl' : Int64} {cp vs ch' : ssF} (h : sm_R rq B md du bi sl g0 g1 k0 k1 ch md' qu be sv sl' cp vs ch') : sm_R rq B' md du bi sl g0 g1 k0 k1 ch md' qu be sv sl' cp vs ch' := by
  obtain ⟨a1, a2, a3, ⟨q, b, e1, e2, h1, h2⟩, a5⟩ := h
  exact ⟨a1, a2, a3, ⟨q, b, e1, e2, by omega, by omega⟩, a5⟩
theorem sm_due1 {r r' : ssF} {md : Int32} {qu be : Int64} (h : bl_cnt r 16 1 0 = bl_cnt r' 16 1 0) : mm_due r md qu be = mm_due r' md qu be := by unfold mm_due; rw [h]
theorem sm_due2 {r r' : ssF} {md : Int32} {qu qu' be : Int64} (h : ¬ md = 1) : mm_due r md qu be = mm_due r' md qu' be := by unfold mm_due; rw [if_neg h, if_neg h]
theorem sm_b1 : vp_nar .boolean 1 = 1 := by decide
theorem sm_b0 : vp_nar .boolean 0 = 0 := by decide
theorem sm_bb {on : Int32} (h : on = 0 ∨ on = 1) : vp_nar .boolean on = on := by
  rcases h with rfl | rfl
  · exact sm_b0
  · exact sm_b1
theorem sm_has {u : Int32} (h1 : ¬ u < 1) (h2 : u ≤ 16) : ∃ v, 1 ≤ v ∧ v ≤ 16 ∧ u = nI v := by
  obtain ⟨j, hj, rfl⟩ := vp_in_of (mm_u h1 h2) (by decide)
  refine ⟨j, ?_, by omega, rfl⟩
  rcases Nat.lt_or_ge j 1 with z | z
  · exact absurd (by rw [show j = 0 by omega]; decide) h1
  · exact z
theorem sm_us0 {u : Int32} (h : u < 1 ∨ ¬ u ≤ 16) : us_has u = 0 := by
  unfold us_has
  rcases h with h | h
  · rw [if_pos h]
  · split
    · rfl
    · rw [if_pos (Int32.not_le.mp h)]
theorem sm_us1 {v : Nat} (h1 : 1 ≤ v) (h2 : v ≤ 16) : ¬ us_has (nI v) = 0 := by
  have a : ¬ nI v < 1 := nI_nlt (b := 1) h1 (by omega)
  have b : ¬ 16 < nI v := nI_nlt (a := 16) h2 (by decide)
  unfold us_has
  rw [if_neg a, if_neg b]
  decide
set_option maxHeartbeats 8000000 in
theorem sm_user {c : Nat} {x : ssS} {y : mmS} (h : sm_Rel c x y) : (ss_user x).1 = (mm_user y).1 ∧ sm_Rel (c + 1) (ss_user x).2 (mm_user y).2 := by
  obtain ⟨⟨md, du, bi, sl, g0, g1, k0, k1, ch⟩, nw, bt, bn, sa, ck, cu, la, rq, n, wk, td, pl, fl, pn, th, tn⟩ := x
  obtain ⟨⟨md', qu, be, sv, sl', cp, vs, ch'⟩, thr, tm, wk', rq', td', od, fl', th', mn, tr, rn, st, ck', cu', lz⟩ := y
  have h : sm_S c md du bi sl g0 g1 k0 k1 ch nw bt bn sa ck cu la rq n wk td pl fl pn th tn md' qu be sv sl' cp vs ch' tm wk' rq' td' od fl' th' mn tr rn st ck' cu' lz := h
  obtain ⟨⟨rfl, rfl, hdu, ⟨q, b, rfl, rfl, hq, hb'⟩, hV, hC, hH, h2, hk0, hk1, hcp⟩, ⟨hn, hU⟩, ⟨T, rfl, rfl, hT⟩, ⟨hW, hwk⟩, ⟨rfl, rfl, rfl, rfl, rfl, rfl⟩, ⟨hPt, hpn⟩, ⟨kt, hkt, rfl, rfl, hA⟩⟩ := h
  refine ⟨hn, ?_⟩
  exact ⟨sm_mono (B := 100000 * c) (by omega) ⟨rfl, rfl, hdu, ⟨q, b, rfl, rfl, hq, hb'⟩, hV, hC, hH, h2, hk0, hk1, hcp⟩, ⟨hn, hU⟩, ⟨T, rfl, rfl, by omega⟩, ⟨hW, hwk⟩, ⟨rfl, rfl, rfl, rfl, rfl, rfl⟩, ⟨hPt, hpn⟩, ⟨kt, hkt, rfl, rfl, hA⟩⟩
set_option maxHeartbeats 8000000 in
theorem sm_request {c : Nat} {x : ssS} {y : mmS} {u on : Int32} (h : sm_Rel c x y) (ho : on = 0 ∨ on = 1) : (ss_request x u on).1 = (mm_request y u on).1 ∧ sm_Rel (c + 1) (ss_request x u on).2 (mm_request y u on).2 := by
  obtain ⟨⟨md, du, bi, sl, g0, g1, k0, k1, ch⟩, nw, bt, bn, sa, ck, cu, la, rq, n, wk, td, pl, fl, pn, th, tn⟩ := x
  obtain ⟨⟨md', qu, be, sv, sl', cp, vs, ch'⟩, thr, tm, wk', rq', td', od, fl', th', mn, tr, rn, st, ck', cu', lz⟩ := y
  have h : sm_S c md du bi sl g0 g1 k0 k1 ch nw bt bn sa ck cu la rq n wk td pl fl pn th tn md' qu be sv sl' cp vs ch' tm wk' rq' td' od fl' th' mn tr rn st ck' cu' lz := h
  obtain ⟨⟨rfl, rfl, hdu, ⟨q, b, rfl, rfl, hq, hb'⟩, hV, hC, hH, h2, hk0, hk1, hcp⟩, ⟨hn, hU⟩, ⟨T, rfl, rfl, hT⟩, ⟨hW, hwk⟩, ⟨rfl, rfl, rfl, rfl, rfl, rfl⟩, ⟨hPt, hpn⟩, ⟨kt, hkt, rfl, rfl, hA⟩⟩ := h
  have hE := sm_mono (B := 100000 * c) (B' := 100000 * (c + 1)) (by omega) (show sm_R rq' (100000 * c) md du bi sl g0 g1 k0 k1 ch md (lN q) (lN b) sv sl cp vs ch' from ⟨rfl, rfl, hdu, ⟨q, b, rfl, rfl, hq, hb'⟩, hV, hC, hH, h2, hk0, hk1, hcp⟩)
  have hsame : ∀ thr : Int32, sm_Rel (c + 1) ((md, du, bi, sl, g0, g1, k0, k1, ch), lN T, bt, bn, sa, ck, cu, la, rq, n, wk, td, pl, fl, pn, th, nI kt) ((md, lN q, lN b, sv, sl, cp, vs, ch'), thr, lN T, wk', rq', td', od, fl', th', nI kt, bn, bt, sa, ck, cu, la) := fun _ => ⟨hE, ⟨hn, hU⟩, ⟨T, rfl, rfl, by omega⟩, ⟨hW, hwk⟩, ⟨rfl, rfl, rfl, rfl, rfl, rfl⟩, ⟨hPt, hpn⟩, ⟨kt, hkt, rfl, rfl, hA⟩⟩
  simp only [ss_request, mm_request]
  by_cases c1 : u < 1
  · rw [if_pos (sm_us0 (Or.inl c1)), if_pos c1]
    exact ⟨rfl, hsame 0⟩
  · rw [if_neg c1]
    by_cases c16 : u ≤ 16
    · obtain ⟨v, v1, v2, rfl⟩ := sm_has c1 c16
      rw [if_neg (sm_us1 v1 v2), if_pos c16]
      by_cases m0 : md = 0
      · rw [if_pos m0, if_pos m0]; exact ⟨rfl, hsame 0⟩
      · rw [if_neg m0, if_neg m0]
        by_cases m3 : md = 3
        · rw [if_pos m3, if_pos m3]; exact ⟨rfl, hsame 0⟩
        · rw [if_neg m3, if_neg m3]
          by_cases m5 : md = 5
          · rw [if_pos m5, if_pos m5]; exact ⟨rfl, hsame 0⟩
          · rw [if_neg m5, if_neg m5]
            obtain ⟨hv, hv01⟩ := hU v v1 v2
            have hcl : (nI v).toNatClampNeg = v := nI_clamp (by omega)
            have hnar := sm_bb ho
            rw [hcl, hnar]
            have hcu := sm_cn_upd (f := rq') (u := v) (v := on) 16 1 v1 (by omega)
            have hN : ∀ f : ssF, bl_cnt f 16 1 0 = nI (sm_cn f 16 1) := fun f => sm_cnt0 f 16 1
            have h16 := sm_cn_le rq' 16 1
            have h16' := sm_cn_le (upd rq' v on) 16 1
            have hU' : ∀ u, 1 ≤ u → u ≤ 16 → upd rq v on u = upd rq' v on u ∧ (upd rq' v on u = 0 ∨ upd rq' v on u = 1) := fun a a1 a2 => by
              by_cases e : a = v
              · subst e; rw [pk_us, pk_us]; exact ⟨rfl, ho⟩
              · rw [pk_un e, pk_un e]; exact hU a a1 a2
            unfold us_set
            rw [if_neg (sm_us1 v1 v2), hcl, hnar]
            by_cases cr : rq v = on
            · rw [if_pos cr]
              simp only
              rw [if_pos trivial]
              have cr' : rq' v = on := hv ▸ cr
              have hcnt : bl_cnt (upd rq' v on) 16 1 0 = bl_cnt rq' 16 1 0 := by
                rw [hN, hN]
                rw [cr'] at hcu
                exact congrArg nI (by omega)
              have hU2 : ∀ u, 1 ≤ u → u ≤ 16 → rq u = upd rq' v on u ∧ (upd rq' v on u = 0 ∨ upd rq' v on u = 1) := fun a a1 a2 => by
                by_cases e : a = v
                · subst e; rw [pk_us]; exact ⟨cr, ho⟩
                · rw [pk_un e]; exact hU a a1 a2
              have hfin : sm_Rel (c + 1) ((md, du, bi, sl, g0, g1, k0, k1, ch), lN T, bt, bn, sa, ck, cu, la, rq, n, wk, td, pl, fl, pn, th, nI kt) ((md, lN q, lN b, sv, sl, cp, vs, ch'), 0, lN T, wk', upd rq' v on, td', od, fl', th', nI kt, bn, bt, sa, ck, cu, la) :=
                ⟨⟨rfl, rfl, hdu.trans (sm_due1 hcnt.symm), hE.2.2.2⟩, ⟨hn.trans hcnt.symm, hU2⟩, ⟨T, rfl, rfl, by omega⟩, ⟨hW, hwk⟩, ⟨rfl, rfl, rfl, rfl, rfl, rfl⟩, ⟨hPt, hpn⟩, ⟨kt, hkt, rfl, rfl, hA⟩⟩
              by_cases z1 : rq' v = 0
              · rw [if_pos z1]; exact ⟨hn.trans hcnt.symm, hfin⟩
              · rw [if_neg z1, if_neg (fun z => z1 (cr'.trans z))]; exact ⟨hn.trans hcnt.symm, hfin⟩
            · rw [if_neg cr]
              simp only
              rw [if_neg (by decide)]
              have cr' : ¬ rq' v = on := fun z => cr (hv.trans z)
              have hn' : n + (if on = 0 then -1 else 1) = bl_cnt (upd rq' v on) 16 1 0 := by
                rw [hn, hN, hN]
                rcases ho with rfl | rfl
                · rw [if_neg cr', if_pos rfl] at hcu
                  rw [if_pos rfl, show sm_cn rq' 16 1 = sm_cn (upd rq' v 0) 16 1 + 1 by omega]
                  exact pk_m1 _
                · have z0 : rq' v = 0 := hv01.resolve_right cr'
                  rw [if_pos z0, if_neg (by decide)] at hcu
                  rw [if_neg (by decide), nI_1]
                  exact congrArg nI (by omega)
              rw [hn']
              by_cases m1 : md = 1
              · rw [if_pos m1]
                subst m1
                by_cases z1 : rq' v = 0
                · rw [if_pos z1]
                  have o1 : on = 1 := ho.resolve_left (fun z => cr' (z1.trans z.symm))
                  have hpos : ¬ bl_cnt (upd rq' v on) 16 1 0 = 0 := by
                    rw [hN]
                    exact nI_ne0 (sm_cn_pos 16 1 v1 (by omega) (by rw [pk_us, o1]; decide)) (by omega)
                  refine ⟨rfl, ⟨rfl, rfl, ?_, hE.2.2.2⟩, ⟨rfl, hU'⟩, ⟨T, rfl, rfl, by omega⟩, ⟨hW, hwk⟩, ⟨rfl, rfl, rfl, rfl, rfl, rfl⟩, ⟨hPt, hpn⟩, ⟨kt, hkt, rfl, rfl, hA⟩⟩
                  show ss_due _ _ = mm_due _ 1 _ _
                  rw [sm_d1, if_neg hpos]
                  unfold ss_due
                  rw [if_neg hpos]
                · rw [if_neg z1]
                  have o0 : on = 0 := ho.resolve_right (fun z => cr' ((hv01.resolve_left z1).trans z.symm))
                  rw [if_pos o0]
                  by_cases zn : bl_cnt (upd rq' v on) 16 1 0 = 0
                  · rw [if_pos zn]
                    refine ⟨rfl, ⟨rfl, rfl, ?_, ⟨T, b, rfl, rfl, by omega, by omega⟩, hE.2.2.2.2⟩, ⟨rfl, hU'⟩, ⟨T, rfl, rfl, by omega⟩, ⟨hW, hwk⟩, ⟨rfl, rfl, rfl, rfl, rfl, rfl⟩, ⟨hPt, hpn⟩, ⟨kt, hkt, rfl, rfl, hA⟩⟩
                    show ss_due _ _ = mm_due _ 1 _ _
                    rw [sm_d1]
                    rfl
                  · rw [if_neg zn]
                    refine ⟨rfl, ⟨rfl, rfl, ?_, hE.2.2.2⟩, ⟨rfl, hU'⟩, ⟨T, rfl, rfl, by omega⟩, ⟨hW, hwk⟩, ⟨rfl, rfl, rfl, rfl, rfl, rfl⟩, ⟨hPt, hpn⟩, ⟨kt, hkt, rfl, rfl, hA⟩⟩
                    show ss_due _ _ = mm_due _ 1 _ _
                    rw [sm_d1, if_neg zn]
                    unfold ss_due
                    rw [if_neg zn]
              · rw [if_neg m1]
                have hq1 : sm_Rel (c + 1) ((md, du, bi, sl, g0, g1, k0, k1, ch), lN T, bt, bn, sa, ck, cu, la, upd rq v on, bl_cnt (upd rq' v on) 16 1 0, wk, td, pl, fl, pn, th, nI kt) ((md, lN q, lN b, sv, sl, cp, vs, ch'), 0, lN T, wk', upd rq' v on, td', od, fl', th', nI kt, bn, bt, sa, ck, cu, la) :=
                  ⟨⟨rfl, rfl, hdu.trans (sm_due2 m1), hE.2.2.2⟩, ⟨rfl, hU'⟩, ⟨T, rfl, rfl, by omega⟩, ⟨hW, hwk⟩, ⟨rfl, rfl, rfl, rfl, rfl, rfl⟩, ⟨hPt, hpn⟩, ⟨kt, hkt, rfl, rfl, hA⟩⟩
                have hq2 : sm_Rel (c + 1) ((md, du, bi, sl, g0, g1, k0, k1, ch), lN T, bt, bn, sa, ck, cu, la, upd rq v on, bl_cnt (upd rq' v on) 16 1 0, wk, td, pl, fl, pn, th, nI kt) ((md, lN T, lN b, sv, sl, cp, vs, ch'), 0, lN T, wk', upd rq' v on, td', od, fl', th', nI kt, bn, bt, sa, ck, cu, la) :=
                  ⟨⟨rfl, rfl, hdu.trans (sm_due2 m1), ⟨T, b, rfl, rfl, by omega, by omega⟩, hE.2.2.2.2⟩, ⟨rfl, hU'⟩, ⟨T, rfl, rfl, by omega⟩, ⟨hW, hwk⟩, ⟨rfl, rfl, rfl, rfl, rfl, rfl⟩, ⟨hPt, hpn⟩, ⟨kt, hkt, rfl, rfl, hA⟩⟩
                split
                · exact ⟨rfl, hq1⟩
                · split
                  · split
                    · exact ⟨rfl, hq2⟩
                    · exact ⟨rfl, hq1⟩
                  · exact ⟨rfl, hq1⟩
    · rw [if_pos (sm_us0 (Or.inr c16)), if_neg c16]
      exact ⟨rfl, hsame 0⟩
set_option maxHeartbeats 8000000 in
theorem sm_wake {c : Nat} {x : ssS} {y : mmS} {u va : Int32} (h : sm_Rel c x y) : (ss_wake x u va).1 = (mm_wake y u va).1 ∧ sm_Rel (c + 1) (ss_wake x u va).2 (mm_wake y u va).2 := by
  obtain ⟨⟨md, du, bi, sl, g0, g1, k0, k1, ch⟩, nw, bt, bn, sa, ck, cu, la, rq, n, wk, td, pl, fl, pn, th, tn⟩ := x
  obtain ⟨⟨md', qu, be, sv, sl', cp, vs, ch'⟩, thr, tm, wk', rq', td', od, fl', th', mn, tr, rn, st, ck', cu', lz⟩ := y
  have h : sm_S c md du bi sl g0 g1 k0 k1 ch nw bt bn sa ck cu la rq n wk td pl fl pn th tn md' qu be sv sl' cp vs ch' tm wk' rq' td' od fl' th' mn tr rn st ck' cu' lz := h
  obtain ⟨⟨rfl, rfl, hdu, ⟨q, b, rfl, rfl, hq, hb'⟩, hV, hC, hH, h2, hk0, hk1, hcp⟩, ⟨hn, hU⟩, ⟨T, rfl, rfl, hT⟩, ⟨hW, hwk⟩, ⟨rfl, rfl, rfl, rfl, rfl, rfl⟩, ⟨hPt, hpn⟩, ⟨kt, hkt, rfl, rfl, hA⟩⟩ := h
  have hE := sm_mono (B := 100000 * c) (B' := 100000 * (c + 1)) (by omega) (show sm_R rq' (100000 * c) md du bi sl g0 g1 k0 k1 ch md (lN q) (lN b) sv sl cp vs ch' from ⟨rfl, rfl, hdu, ⟨q, b, rfl, rfl, hq, hb'⟩, hV, hC, hH, h2, hk0, hk1, hcp⟩)
  have hsame : ∀ thr : Int32, sm_Rel (c + 1) ((md, du, bi, sl, g0, g1, k0, k1, ch), lN T, bt, bn, sa, ck, cu, la, rq, n, wk, td, pl, fl, pn, th, nI kt) ((md, lN q, lN b, sv, sl, cp, vs, ch'), thr, lN T, wk', rq', td', od, fl', th', nI kt, bn, bt, sa, ck, cu, la) := fun _ => ⟨hE, ⟨hn, hU⟩, ⟨T, rfl, rfl, by omega⟩, ⟨hW, hwk⟩, ⟨rfl, rfl, rfl, rfl, rfl, rfl⟩, ⟨hPt, hpn⟩, ⟨kt, hkt, rfl, rfl, hA⟩⟩
  have hrun : sm_Rel (c + 1) ((1, ss_due n (lN T), bi, sl, g0, g1, k0, k1, ch), lN T, bt, bn, sa, ck, cu, la, rq, n, wk, td, pl, fl, pn, th, nI kt) ((1, lN T, lN b, sv, sl, cp, vs, ch'), 0, lN T, wk', rq', td', od, fl', th', nI kt, bn, bt, sa, ck, cu, la) :=
    ⟨⟨rfl, rfl, by rw [sm_d1, hn]; rfl, ⟨T, b, rfl, rfl, by omega, by omega⟩, hV, hC, hH, fun z => absurd (show (1 : Int32) = 2 from z) (by decide), hk0, hk1, hcp⟩, ⟨hn, hU⟩, ⟨T, rfl, rfl, by omega⟩, ⟨hW, hwk⟩, ⟨rfl, rfl, rfl, rfl, rfl, rfl⟩, ⟨hPt, hpn⟩, ⟨kt, hkt, rfl, rfl, hA⟩⟩
  have hchk : sm_Rel (c + 1) ((4, lN T + 20, bi, sl, g0, g1, k0, k1, ch), lN T, bt, bn, sa, ck + 1, cu, la, rq, n, wk, td, pl, fl, pn, th, nI kt) ((4, lN q, lN T, sv, sl, cp, vs, ch'), 0, lN T, wk', rq', td', od, fl', th', nI kt, bn, bt, sa, ck + 1, cu, la) :=
    ⟨⟨rfl, rfl, (by simp [mm_due] : (lN T + 20 : Int64) = mm_due rq' 4 (lN q) (lN T)), ⟨q, T, rfl, rfl, by omega, by omega⟩, hV, hC, hH, fun z => absurd (show (4 : Int32) = 2 from z) (by decide), hk0, hk1, hcp⟩, ⟨hn, hU⟩, ⟨T, rfl, rfl, by omega⟩, ⟨hW, hwk⟩, ⟨rfl, rfl, rfl, rfl, rfl, rfl⟩, ⟨hPt, hpn⟩, ⟨kt, hkt, rfl, rfl, hA⟩⟩
  simp only [ss_wake, mm_wake]
  by_cases c1 : u < 1
  · rw [if_pos c1, if_pos c1]; exact ⟨rfl, hsame 0⟩
  · rw [if_neg c1, if_neg c1]
    by_cases c8 : u ≤ 8
    · rw [if_pos c8, if_pos c8]
      by_cases m3 : md = 3
      · by_cases z : va = 0
        · rw [if_pos z, if_pos m3, if_pos m3, if_pos z, if_pos m3]; exact ⟨rfl, hchk⟩
        · rw [if_neg z, if_pos m3, if_pos m3, if_neg z]; exact ⟨rfl, hrun⟩
      · by_cases m4 : md = 4
        · by_cases z : va = 0
          · rw [if_pos z, if_neg m3, if_neg m3, if_pos m4, if_pos z, if_neg m3]; exact ⟨rfl, hsame 0⟩
          · rw [if_neg z, if_neg m3, if_pos m4, if_neg m3, if_pos m4, if_neg z]; exact ⟨rfl, hrun⟩
        · by_cases z : va = 0
          · rw [if_pos z, if_neg m3, if_neg m3, if_neg m4, if_neg m3]; exact ⟨rfl, hsame 0⟩
          · rw [if_neg z, if_neg m3, if_neg m4, if_neg m3, if_neg m3, if_neg m4, if_neg m3]; exact ⟨rfl, hsame 0⟩
    · rw [if_neg c8, if_neg c8]; exact ⟨rfl, hsame 0⟩
