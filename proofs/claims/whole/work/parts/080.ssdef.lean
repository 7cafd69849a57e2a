/-! StartSleep: events. ssE: mode, due, block in saving, sleeps, versions (2), copies (2), changed -/
abbrev ssF : Type := Nat → Int32
abbrev ssE : Type := Int32 × Int64 × Int32 × Int64 × ssF × ssF × ssF × ssF × ssF
def ss_due (n : Int32) (nw : Int64) : Int64 := if n = 0 then nw + 100 else -1
def ss_can (nw t : Int64) : Int32 := if t < nw then 0 else if 100000 < t - nw then 0 else 1
/-- saveNextOrSleep: mode, due, block, sleeps, versions -/
def ss_sn (nw sl : Int64) (g0 g1 ch : ssF) : Int32 × Int64 × Int32 × Int64 × ssF × ssF :=
  if bl_fst ch 8 0 = -1 then (3, -1, bl_fst ch 8 0, sl + 1, g0, g1) else (2, nw + 5, bl_fst ch 8 0, sl, (bl_tear g0 g1 (bl_fst ch 8 0)).1, (bl_tear g0 g1 (bl_fst ch 8 0)).2)
def ss_es (n : Int32) (wk : ssF) (nw sl : Int64) (bi : Int32) (g0 g1 k0 k1 ch : ssF) : ssE :=
  if n ≤ 0 then ((ss_sn nw sl (bl_save wk k0 k1 g0 g1 ch bi).2.2.1 (bl_save wk k0 k1 g0 g1 ch bi).2.2.2.1 (bl_save wk k0 k1 g0 g1 ch bi).2.2.2.2).1, (ss_sn nw sl (bl_save wk k0 k1 g0 g1 ch bi).2.2.1 (bl_save wk k0 k1 g0 g1 ch bi).2.2.2.1 (bl_save wk k0 k1 g0 g1 ch bi).2.2.2.2).2.1, (ss_sn nw sl (bl_save wk k0 k1 g0 g1 ch bi).2.2.1 (bl_save wk k0 k1 g0 g1 ch bi).2.2.2.1 (bl_save wk k0 k1 g0 g1 ch bi).2.2.2.2).2.2.1, (ss_sn nw sl (bl_save wk k0 k1 g0 g1 ch bi).2.2.1 (bl_save wk k0 k1 g0 g1 ch bi).2.2.2.1 (bl_save wk k0 k1 g0 g1 ch bi).2.2.2.2).2.2.2.1, (ss_sn nw sl (bl_save wk k0 k1 g0 g1 ch bi).2.2.1 (bl_save wk k0 k1 g0 g1 ch bi).2.2.2.1 (bl_save wk k0 k1 g0 g1 ch bi).2.2.2.2).2.2.2.2.1, (ss_sn nw sl (bl_save wk k0 k1 g0 g1 ch bi).2.2.1 (bl_save wk k0 k1 g0 g1 ch bi).2.2.2.1 (bl_save wk k0 k1 g0 g1 ch bi).2.2.2.2).2.2.2.2.2, (bl_save wk k0 k1 g0 g1 ch bi).1, (bl_save wk k0 k1 g0 g1 ch bi).2.1, (bl_save wk k0 k1 g0 g1 ch bi).2.2.2.2)
  else (1, ss_due n nw, -1, sl, (bl_save wk k0 k1 g0 g1 ch bi).2.2.1, (bl_save wk k0 k1 g0 g1 ch bi).2.2.2.1, (bl_save wk k0 k1 g0 g1 ch bi).1, (bl_save wk k0 k1 g0 g1 ch bi).2.1, (bl_save wk k0 k1 g0 g1 ch bi).2.2.2.2)
def ss_hap (n : Int32) (wk : ssF) (nw : Int64) : ssE → ssE := fun (md, du, bi, sl, g0, g1, k0, k1, ch) =>
  if md = 1 then ((ss_sn nw sl g0 g1 ch).1, (ss_sn nw sl g0 g1 ch).2.1, (ss_sn nw sl g0 g1 ch).2.2.1, (ss_sn nw sl g0 g1 ch).2.2.2.1, (ss_sn nw sl g0 g1 ch).2.2.2.2.1, (ss_sn nw sl g0 g1 ch).2.2.2.2.2, k0, k1, ch) else
  if md = 2 then ss_es n wk nw sl bi g0 g1 k0 k1 ch else (3, -1, bi, sl + 1, g0, g1, k0, k1, ch)
def ss_adv (n : Int32) (wk : ssF) (t : Int64) : Nat → Int64 → ssE → ssE
  | 0, _, x => x
  | k + 1, nw, x => if x.2.1 = -1 then x else if t < x.2.1 then x else ss_adv n wk t k x.2.1 (ss_hap n wk x.2.1 x)
theorem my_eta {α β : Type} (p : α × β) : (p.1, p.2) = p := rfl
