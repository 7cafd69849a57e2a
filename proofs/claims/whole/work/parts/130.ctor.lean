/-! Rows for constructors: new cells come with what they are; words of arrays over arrays -/
def my_Qe {α : Type} (D : va_G) (cl : List vw_C) (tys' : α → List (ClassId × FieldType)) (w1 : α → va_W) (A : Nat → Prop) : Array Value → State → Outcome → State → Prop := va_Qv (fun (_ : α) => True) (fun u => my_B D cl (tys' u) (w1 u) A) A
def my_mv (Z : State → Prop) : Prop := ∀ U U' : State, U.vm.Alike U'.vm → U'.heap = U.heap → Z U → Z U'
theorem my_blindZ {av : List Value} {D : va_G} {cl : List vw_C} {tys : List (ClassId × FieldType)} {sz : Nat} {ws : va_W} {Z : State → Prop} (hZ : my_mv Z) : FrameBlind (va_Pc av (fun U => my_P D cl tys sz ws U ∧ Z U)) := fun a U g mk q => by
  obtain ⟨q0, ⟨q1, qP, qK, qD⟩, qZ⟩ := q
  exact ⟨q0, ⟨q1, qP, va_K.moved (u := U) (U := U.calling g mk a) (Vm.Alike.refl U.vm) qK, qD⟩, hZ U (U.calling g mk a) (Vm.Alike.refl U.vm) rfl qZ⟩
theorem my_two_eq (r : Nat → Nat) : (fun i => if i < 2 then some (r i) else none) = my_two (r 0) (r 1) := by
  funext i
  unfold my_two
  by_cases h : i < 2
  · rw [if_pos h, if_pos h]
    by_cases e : i = 0
    · subst e; rfl
    · rw [if_neg e, show i = 1 by omega]
  · rw [if_neg h, if_neg h]
section MYE
variable {p : Program} {l : Launch} {e : Env} {R : Room} {s : State} {m : MethodId} {args : Array Value} {below : List Frame} {meth : Method} {c : Code} {H : Heap} {locs : List Loc} {cells slots : Nat} {Q : State → Prop}
variable {y : MethodName} {bytes cc : ByteArray} {maxL nL mc ms n index : Nat} {ret : Option FieldType} {ws9 : List Cond} {rm : Room} {Qc : Array Value → State → Outcome → State → Prop} {Ts : List Cond} {own C : String} {b : Addr} {As rest st0 : List Value}
variable {D : va_G} {cl : List vw_C} {tys : List (ClassId × FieldType)} {ws wc wr : va_W} {A : Nat → Prop} {H0 : Heap} {pc : Nat} {ls : Array Slot} {ret9 : Option FieldType}
theorem my_preZ {Z : State → Prop} (hZ : my_mv Z) (hz : ∀ U : State, U.heap = H → s.WarmedH U.vm → Z U) (hK : va_K D cl tys s) (hP : va_P D cl ws H) (hD : va_D A ws) (isC : List Nat) (hC : isC.map (fun i => ws[i]?) = wc.map some) (hnC : va_nd isC = true) (av : List Value) :
    PreS s H (va_Pc av (fun U => my_P D cl tys H.size wc U ∧ Z U)) av := by
  have hPc := hP.sub (ws' := wc) isC (my_fm _ _ _ hC)
  have hDc := hD.sub (ws' := wc) isC hnC hC
  exact ⟨my_blindZ hZ, fun U hU hW => ⟨rfl, ⟨by rw [hU], by rw [hU]; exact hPc, va_K.moved hW.alike hK, hDc.weaken (fun _ _ _ _ => trivial)⟩, hz U hU hW⟩⟩
theorem my_IZ {Z : State → Prop} (hZ : my_mv Z) (hz : ∀ U : State, U.heap = H → s.WarmedH U.vm → Z U) (S : CallFix p m c cc nL s args Ts own) (hM : Met l y ws9 rm (va_Pc (.ref b :: As) (fun U => my_P D cl tys H.size wc U ∧ Z U)) Qc mc ms (va_A wc H.size)) (cw : CallB R s args own index y bytes maxL none ws9 rm mc ms n ∧ y.name = "<init>" ∧ (Cond.instanceMethod y).before args s = true)
    (hK : va_K D cl tys s) (hP : va_P D cl ws H) (hD : va_D A ws) (isC : List Nat) (hC : isC.map (fun i => ws[i]?) = wc.map some) (hnC : va_nd isC = true)
    (hn : As.length = n) (hsize : ls.size = nL) (hst : st0 = As.reverse ++ .ref b :: rest) (hW : (rest.map fun v => v.category).sum ≤ 8) (hdg : decode cc pc = .ok (.invokespecial index, 3)) (hf : cells + mc ≤ R.cells ∧ slots + ms ≤ R.slots) :
    va_Run p l e R s m args below meth c H locs cells slots mc ms (F0 m pc ls st0) rest (Qc (Value.ref b :: As).toArray) (va_A wc H.size) :=
  va_runI (g := F0 m pc ls st0) S hM cw (my_preZ hZ hz hK hP hD isC hC hnC (.ref b :: As)) rfl hn hsize hst (lv_room hW) hdg hf
theorem my_ce {α : Type} {tys' : α → List (ClassId × FieldType)} {w1 : α → va_W} {a : Array Value} (hP : va_P D cl ws H) (hD : va_D A ws) (hS : va_S A H0 H locs) (hA : ∀ q, H0.size ≤ q → A q) (isC isR : List Nat)
    (hr : va_Run p l e R s m args below meth c H locs cells slots mc ms (F0 m pc ls st0) rest (my_Qe D cl tys' w1 (va_A wc H.size) a) (va_A wc H.size))
    (hC : isC.map (fun i => ws[i]?) = wc.map some) (hR : isR.map (fun i => ws[i]?) = wr.map some) (hn : va_nd isR = true) (hdis : ∀ i ∈ isR, i ∉ isC)
    (kk : ∀ (u : α) (H1 : Heap) (locs1 : List Loc), va_K D cl (tys' u) s → va_P D cl (wr ++ w1 u) H1 → va_D A (wr ++ w1 u) → va_S A H0 H1 locs1 → W p l e R s m args below meth c H1 locs1 (cells + mc) (slots + ms) Q (F0 m (pc + 3) ls rest)) : W p l e R s m args below meth c H locs cells slots Q (F0 m pc ls st0) := by
  have hFc := va_free (wc := wc) hD hS hA isC hC
  refine va_callv hr hS (fun q _ h => hFc q h) hFc (fun u t H1 locs1 ht hvm hw hB hz1 hk1 hS1 => ?_)
  obtain ⟨hP1, hK1, hD1⟩ := hB
  rw [ht] at hP1
  obtain ⟨hP2, hD2⟩ := va_join (wr := wr) (w1 := w1 u) hP hD isC isR hC hR hn hdis hk1 hFc hP1 hD1
  exact kk u H1 locs1 (va_K.moved hvm.symm hK1) hP2 hD2 hS1
theorem my_vre {α : Type} (u : α) {tys' : α → List (ClassId × FieldType)} {w1 : α → va_W} (hx : p.tables.exec = Jvm.exec) (hb : c.code = cc) (hr : meth.sig.returnType = none) (hlocks : meth.locks = false) (hK : va_K D cl (tys' u) s) (hP : va_P D cl (w1 u) H) (hD : va_D A (w1 u)) (hS : va_S A s.heap H locs) (hdg : decode cc pc = .ok (.return_, 1)) :
    W p l e R s m args below meth c H locs cells slots (MQ below (my_Qe D cl tys' w1 A) args s cells slots A) (F0 m pc ls []) :=
  W.vret hx hb hr (fun _ ht hW => ⟨⟨u, rfl, trivial, by rw [ht]; exact hP, va_K.moved hW.alike hK, hD⟩, hS.F ht⟩) hS.2.2 hdg hlocks
theorem my_metZ {Z : State → Prop} {av : List Value} {sz : Nat} {ws' : List Cond} (Qf : (Nat → Prop) → Array Value → State → Outcome → State → Prop) (hy : plainName y.cls = true) (hw : ws9 = Cond.code y cc maxL ret9 :: ws') (hlen : (lg_sl av).length ≤ maxL)
    (body : ∀ (p : Program) (e : Env) (s : State) (m : MethodId) (below : List Frame) (meth : Method) (c : Code) (A : Nat → Prop) (ls : Array Slot), p.tables.exec = Jvm.exec → c.code = cc → meth.sig.returnType = ret9 → meth.locks = false → c.maxLocals = maxL → s.vm.findClass y.cls = some m.cls → meth.name = y.name → (∀ w ∈ ws9, w.before av.toArray s = true) → lv_has ls maxL (lv_args 0 av) → va_K D cl tys s → va_P D cl ws s.heap → va_D A ws → va_S A s.heap s.heap [] → (∀ q, s.heap.size ≤ q → A q) → Z s →
      W p l e (headSpec ws9 rm).room s m av.toArray below meth c s.heap [] 0 0 (MQ below (Qf A) av.toArray s mc ms A) (F0 m 0 ls [])) :
    Met l y ws9 rm (va_Pc av (fun U => my_P D cl tys sz ws U ∧ Z U)) (Qf (va_A ws sz)) mc ms (va_A ws sz) := by
  refine Met.ofW (cc := cc) (maxL := maxL) (ret := ret9) hy hw ?_
  intro p e s m args below meth c s₁ B hml hv
  obtain ⟨rfl, ⟨hsz, hP, hK, hD0⟩, hZ⟩ := hv
  have hts := atoms_spec (ws := ws9) B.pre
  subst hsz
  have hl := lv_entry av (n := maxL) hlen
  rw [lg_entry_eq]
  exact body p e s m below meth c (va_A ws s.heap.size) _ B.exec B.bytes B.returns B.notSynchronized hml (findClass_of_methodNamed B.named) (name_of_methodNamed B.named B.method).1 hts hl hK hP hD0.self va_S.rf (fun q h => Or.inr h) hZ
/-- new T[2][k] -/
theorem my_mna2 (hexec : p.tables.exec = Jvm.exec) (hb : c.code = cc) {ty : FieldType} {cy : ClassId} (hown : s.vm.findClass own = some m.cls) (hclink : (Cond.classLink own index ("[" ++ (FieldType.array ty).toString)).before args s = true) (hover : va_AOA ty s) (harr : (Cond.arrayClass ty).before args s = true) (hcy : s.vm.findClass (FieldType.array ty).toString = some cy)
    (hK : va_K D cl tys s) (hP : va_P D cl ws H) (hD : va_D A ws) (hS : va_S A H0 H locs) (hA : ∀ q, H0.size ≤ q → A q) {k : Int32} {K' : Nat} {z : vp_A} (hk : ¬ k < 0) (hM : k.toNatClampNeg = K')
    (hb2 : K' * componentBytes ty ≤ 536870912) (hb3 : K' ≤ 536870912) (hdf : fits ty (defaultValue ty) = true) (hdd : (defaultValue ty).isDefault = true) (hcells : cells + (1 + 2) ≤ R.cells) (hslots : slots + (2 + 2 * K') ≤ R.slots) (hz : ∀ c : ClassId, Jvm.Free.Multi.innerC c K' (defaultValue ty) = vp_cell c z) (hdg : decode cc pc = .ok (.multianewarray index 2, 4))
    (kk : ∀ (q r0 r1 : Nat) (cA : ClassId) (H1 : Heap), va_K D cl (tys ++ [(cA, .array ty)]) s → va_P D cl (ws ++ [(q, .inl (cA, 2, .inr (.inr (.inr (.inr (my_two r0 r1)))))), (r0, .inl (cy, z)), (r1, .inl (cy, z))]) H1 → va_D A (ws ++ [(q, .inl (cA, 2, .inr (.inr (.inr (.inr (my_two r0 r1)))))), (r0, .inl (cy, z)), (r1, .inl (cy, z))]) → va_S A H0 H1 locs →
      W p l e R s m args below meth c H1 locs (cells + 1 + 2) (slots + 2 + 2 * K') Q (F0 m (pc + 4) ls (.ref q :: rest))) : W p l e R s m args below meth c H locs cells slots Q (F0 m pc ls (.int k :: .int 2 :: rest)) := by
  have e0 : ∀ f : Nat → va_E, ws ++ va_pl [] f = ws := fun f => List.append_nil ws
  refine va_mna (X := ws) (L := []) (f := fun _ => .inr (0, [])) (N' := 2) (K' := K') (z := z) hexec hb hown hclink hover harr hcy hK (by rw [e0]; exact hP) (by rw [e0]; exact hD) hS hA (by decide) hk (by decide) hM (by decide) hb2 hb3 hdf hdd hcells hslots hz hdg (fun q r cA H1 hinj hnot hK1 hP1 hD1 hS1 => ?_)
  have e1 : ∀ x : Nat × va_E, (ws ++ [x]) ++ va_pl ([] ++ (List.range 2).map r) (vr_up (fun _ => .inr (0, [])) ((List.range 2).map r) (.inl (cy, z))) = ws ++ [x, (r 0, .inl (cy, z)), (r 1, .inl (cy, z))] := by
    intro x
    have h0 : vr_up (fun _ => (.inr (0, []) : va_E)) ((List.range 2).map r) (.inl (cy, z)) (r 0) = .inl (cy, z) := vr_up_in (by simp [List.range_succ])
    have h1 : vr_up (fun _ => (.inr (0, []) : va_E)) ((List.range 2).map r) (.inl (cy, z)) (r 1) = .inl (cy, z) := vr_up_in (by simp [List.range_succ])
    show (ws ++ [x]) ++ [(r 0, vr_up (fun _ => (.inr (0, []) : va_E)) ((List.range 2).map r) (.inl (cy, z)) (r 0)), (r 1, vr_up (fun _ => (.inr (0, []) : va_E)) ((List.range 2).map r) (.inl (cy, z)) (r 1))] = _
    rw [h0, h1, List.append_assoc]
    rfl
  rw [e1, my_two_eq] at hP1 hD1
  exact kk q (r 0) (r 1) cA H1 hK1 hP1 hD1 hS1
end MYE
theorem va_AOA.moved {t : FieldType} {u U : State} (hvm : u.vm.Alike U.vm) (h : va_AOA t u) : va_AOA t U := over_moved (a := #[]) (a' := #[]) hvm h
def my_ZA (U : State) : Prop := va_AOA .byte U ∧ va_AOA .int U
theorem my_ZA_mv : my_mv my_ZA := fun _ _ h _ q => ⟨va_AOA.moved h q.1, va_AOA.moved h q.2⟩
theorem my_zboolean {n : Nat} (cA : ClassId) : vp_cell cA (n, .inl (fun _ => 0)) = arrV cA n (fun _ => defaultValue .boolean) := rfl
theorem my_zbyte {n : Nat} (cA : ClassId) : vp_cell cA (n, .inl (fun _ => 0)) = arrV cA n (fun _ => defaultValue .byte) := rfl
theorem my_zint {n : Nat} (cA : ClassId) : vp_cell cA (n, .inl (fun _ => 0)) = arrV cA n (fun _ => defaultValue .int) := rfl
theorem my_zzbyte {n : Nat} (cA : ClassId) : Jvm.Free.Multi.innerC cA n (defaultValue .byte) = vp_cell cA (n, .inl (fun _ => 0)) := arrV_new cA n (.int 0)
theorem my_zzint {n : Nat} (cA : ClassId) : Jvm.Free.Multi.innerC cA n (defaultValue .int) = vp_cell cA (n, .inl (fun _ => 0)) := arrV_new cA n (.int 0)
