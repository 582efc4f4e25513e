-- the classes of rows, the shapes of a contract, and what a call does to the list of cells
abbrev TY (cB cI cJ cZ cM : ClassId) : List (ClassId × FieldType) := [(cB, .byte), (cI, .int), (cJ, .long), (cZ, .boolean), (cM, .object "OnlyHalves$Market")]
def NW (U : State) : Prop := va_AO "OnlyHalves$Market" U ∧ va_Nw (.methodLinkNest RX11 11 yX9_init "OnlyHalves") U ∧ va_Nw (.methodLinkNest RX11 38 yX5_init "OnlyHalves") U ∧ va_Nw (.methodLinkNest RX11 54 yX6_init "OnlyHalves") U ∧ va_Nw (.methodLinkNest RX11 61 yX3_init "OnlyHalves") U ∧ va_Nw (.methodLinkNest RX11 68 yX4_init "OnlyHalves") U ∧ va_Nw (.methodLinkNest RX11 75 yX1_init "OnlyHalves") U ∧ va_Nw (.methodLinkNest RX11 82 yX0_init "OnlyHalves") U ∧ va_Nw (.methodLinkNest RX7 11 yX8_init "OnlyHalves") U
theorem NW.warm {s U : State} (hW : s.WarmedH U.vm) (h : NW s) : NW U := by
  obtain ⟨h0, h1, h2, h3, h4, h5, h6, h7, h8⟩ := h
  exact ⟨va_AO.moved hW.alike h0, va_Nw.warmM hW h1, va_Nw.warmM hW h2, va_Nw.warmM hW h3, va_Nw.warmM hW h4, va_Nw.warmM hW h5, va_Nw.warmM hW h6, va_Nw.warmM hW h7, va_Nw.warmM hW h8⟩
theorem NW.same {u U : State} (h9 : u.vm = U.vm) (h : NW u) : NW U := by
  obtain ⟨h0, h1, h2, h3, h4, h5, h6, h7, h8⟩ := h
  exact ⟨va_AO.moved (h9 ▸ Vm.Alike.refl u.vm) h0, va_Nw.same rfl h9 h1, va_Nw.same rfl h9 h2, va_Nw.same rfl h9 h3, va_Nw.same rfl h9 h4, va_Nw.same rfl h9 h5, va_Nw.same rfl h9 h6, va_Nw.same rfl h9 h7, va_Nw.same rfl h9 h8⟩
abbrev PW (D : va_G) (tys : List (ClassId × FieldType)) (ws : va_W) (sz : Nat) (U : State) : Prop := U.heap.size = sz ∧ va_P D vwCl ws U.heap ∧ va_K D vwCl tys U ∧ va_D (fun _ => True) ws ∧ NW U
abbrev BW (D : va_G) (A : Nat → Prop) (u : va_W) (t : State) : Prop := va_P D vwCl u t.heap ∧ va_D A u
abbrev QI (D : va_G) (post : Int32 → va_W → Prop) (ws : va_W) (sz : Nat) : Array Value → State → Outcome → State → Prop := va_Qi post (BW D (va_A ws sz)) (va_A ws sz)
abbrev QV (D : va_G) (post : va_W → Prop) (ws : va_W) (sz : Nat) : Array Value → State → Outcome → State → Prop := va_Qv post (BW D (va_A ws sz)) (va_A ws sz)
abbrev QR (D : va_G) (post : va_W × Nat → Prop) (ws : va_W) (sz : Nat) : Array Value → State → Outcome → State → Prop := va_Qr post (fun u a t => a = u.2 ∧ BW D (va_A ws sz) u.1 t) (va_A ws sz)
theorem k_blind {D : va_G} {tys : List (ClassId × FieldType)} {av : List Value} {ws : va_W} {sz : Nat} : FrameBlind (va_Pc av (PW D tys ws sz)) := fun a U g mk q => ⟨q.1, q.2.1, q.2.2.1, va_K.moved (u := U) (U := U.calling g mk a) (Vm.Alike.refl U.vm) q.2.2.2.1, q.2.2.2.2.1, NW.same (u := U) (U := U.calling g mk a) rfl q.2.2.2.2.2⟩
section KC
variable {p : Program} {l : Launch} {e : Env} {R : Room} {s : State} {m : MethodId} {args : Array Value} {below : List Frame} {meth : Method} {c : Code} {H H0 : Heap} {locs : List Loc} {cells slots mc ms : Nat} {Q : State → Prop}
variable {D : va_G} {tys : List (ClassId × FieldType)} {A : Nat → Prop} {W0 wc wr : va_W} {Ts ws : List Cond} {rm : Room} {cc bytes : ByteArray} {nL maxL index n b ci q0 pc : Nat} {own C : String} {T : u_T} {N : Nat} {fs As rest st : List Value} {y : MethodName} {ret : Option FieldType} {ls : Array Slot} {k k' n9 n9' : Nat}
theorem w_top {v v' : Value} (h : v = v') (kk : W p l e R s m args below meth c H locs cells slots Q (F0 m pc ls (v' :: rest))) : W p l e R s m args below meth c H locs cells slots Q (F0 m pc ls (v :: rest)) := h ▸ kk
theorem w_gen (hP : va_P D vwCl W0 H) (hS : va_S A H0 H locs) (kk : ∀ (H' : Heap) (locs' : List Loc), va_P D vwCl W0 H' → va_S A H0 H' locs' → W p l e R s m args below meth c H' locs' cells slots Q (F0 m pc ls st)) : W p l e R s m args below meth c H locs cells slots Q (F0 m pc ls st) := kk H locs hP hS
theorem w_loop (I : Nat → Heap → List Loc → Array Slot → Prop) (B : Nat) (hs : ∀ (j : Nat) (H' : Heap) (locs' : List Loc) (ls' : Array Slot), j ≤ B → I j H' locs' ls' → (∀ (H1 : Heap) (locs1 : List Loc) (ls1 : Array Slot), j < B → I (j + 1) H1 locs1 ls1 → W p l e R s m args below meth c H1 locs1 cells slots Q (F0 m pc ls1 st)) → W p l e R s m args below meth c H' locs' cells slots Q (F0 m pc ls' st)) (h0 : I 0 H locs ls) : W p l e R s m args below meth c H locs cells slots Q (F0 m pc ls st) := by
  have key : ∀ (f j : Nat) (H' : Heap) (locs' : List Loc) (ls' : Array Slot), j ≤ B → B - j < f → I j H' locs' ls' → W p l e R s m args below meth c H' locs' cells slots Q (F0 m pc ls' st) := by
    intro f
    induction f with
    | zero => intro j H' locs' ls' _ h; exact absurd h (Nat.not_lt_zero _)
    | succ f ih =>
      intro j H' locs' ls' hj hf hI
      exact hs j H' locs' ls' hj hI (fun H1 locs1 ls1 hlt hI1 => ih (j + 1) H1 locs1 ls1 hlt (by omega) hI1)
  exact key (B - 0 + 1) 0 H locs ls (Nat.zero_le _) (by omega) h0
theorem k_iV {post : Int32 → va_W → Prop} (S : CallFix p m c cc nL s args Ts own) (hM : Met l y ws rm (va_Pc (.ref b :: As) (PW D tys wc H.size)) (QI D post wc H.size) mc ms (va_A wc H.size)) (cw : CallW R s args own C index y bytes maxL ret ws rm mc ms n) (hK : va_K D vwCl tys s) (hO : NW s) (hP : va_P D vwCl W0 H) (hD : va_D A W0) (hS : va_S A H0 H locs) (hA : ∀ q, H0.size ≤ q → A q) (isC isR : List Nat) (hCf : isC.filterMap (fun i => W0[i]?) = wc) (hC : isC.map (fun i => W0[i]?) = wc.map some) (hR : isR.map (fun i => W0[i]?) = wr.map some) (hnC : va_nd isC = true) (hnR : va_nd isR = true) (hdis : ∀ i ∈ isR, i ∉ isC) (ci q0 : Nat) (hc : vwCl[ci]? = some (C, T, N)) (he : wc[q0]? = some (b, .inr (ci, fs))) (hn : As.length = n) (hsz : ls.size = nL) (hst : st = As.reverse ++ .ref b :: rest) (hW : (rest.map fun v => v.category).sum ≤ 8) (hdg : decode cc pc = .ok (.invokevirtual index, 3)) (hf : cells + mc ≤ R.cells ∧ slots + ms ≤ R.slots)
    (kk : ∀ (r : Int32) (u : va_W) (H1 : Heap) (locs1 : List Loc), post r u → va_P D vwCl (wr ++ u) H1 → va_D A (wr ++ u) → va_S A H0 H1 locs1 → W p l e R s m args below meth c H1 locs1 (cells + mc) (slots + ms) Q (F0 m (pc + 3) ls (.int r :: rest))) : W p l e R s m args below meth c H locs cells slots Q (F0 m pc ls st) := by
  have hPc := hP.sub isC hCf
  have hDc := hD.sub isC hnC hC
  have hFc := va_free hD hS hA isC hC
  refine va_calli (va_runV S hM cw ⟨k_blind, va_recv hK hPc hc he, fun U hU hW => ⟨rfl, by rw [hU], by rw [hU]; exact hPc, va_K.moved hW.alike hK, hDc.weaken (fun _ _ _ _ => trivial), NW.warm hW hO⟩⟩ rfl hn hsz hst (lv_room hW) hdg hf) hS (fun q _ h => hFc q h) hFc (fun r u t H1 locs1 ht hvm hw hB hz1 hk1 hS1 => ?_)
  obtain ⟨hP1, hD1⟩ := hB
  rw [ht] at hP1
  obtain ⟨hP2, hD2⟩ := va_join hP hD isC isR hC hR hnR hdis hk1 hFc hP1 hD1
  exact kk r u H1 locs1 hw hP2 hD2 hS1
theorem k_vV {post : va_W → Prop} (S : CallFix p m c cc nL s args Ts own) (hM : Met l y ws rm (va_Pc (.ref b :: As) (PW D tys wc H.size)) (QV D post wc H.size) mc ms (va_A wc H.size)) (cw : CallW R s args own C index y bytes maxL ret ws rm mc ms n) (hK : va_K D vwCl tys s) (hO : NW s) (hP : va_P D vwCl W0 H) (hD : va_D A W0) (hS : va_S A H0 H locs) (hA : ∀ q, H0.size ≤ q → A q) (isC isR : List Nat) (hCf : isC.filterMap (fun i => W0[i]?) = wc) (hC : isC.map (fun i => W0[i]?) = wc.map some) (hR : isR.map (fun i => W0[i]?) = wr.map some) (hnC : va_nd isC = true) (hnR : va_nd isR = true) (hdis : ∀ i ∈ isR, i ∉ isC) (ci q0 : Nat) (hc : vwCl[ci]? = some (C, T, N)) (he : wc[q0]? = some (b, .inr (ci, fs))) (hn : As.length = n) (hsz : ls.size = nL) (hst : st = As.reverse ++ .ref b :: rest) (hW : (rest.map fun v => v.category).sum ≤ 8) (hdg : decode cc pc = .ok (.invokevirtual index, 3)) (hf : cells + mc ≤ R.cells ∧ slots + ms ≤ R.slots)
    (kk : ∀ (u : va_W) (H1 : Heap) (locs1 : List Loc), post u → va_P D vwCl (wr ++ u) H1 → va_D A (wr ++ u) → va_S A H0 H1 locs1 → W p l e R s m args below meth c H1 locs1 (cells + mc) (slots + ms) Q (F0 m (pc + 3) ls rest)) : W p l e R s m args below meth c H locs cells slots Q (F0 m pc ls st) := by
  have hPc := hP.sub isC hCf
  have hDc := hD.sub isC hnC hC
  have hFc := va_free hD hS hA isC hC
  refine va_callv (va_runV S hM cw ⟨k_blind, va_recv hK hPc hc he, fun U hU hW => ⟨rfl, by rw [hU], by rw [hU]; exact hPc, va_K.moved hW.alike hK, hDc.weaken (fun _ _ _ _ => trivial), NW.warm hW hO⟩⟩ rfl hn hsz hst (lv_room hW) hdg hf) hS (fun q _ h => hFc q h) hFc (fun u t H1 locs1 ht hvm hw hB hz1 hk1 hS1 => ?_)
  obtain ⟨hP1, hD1⟩ := hB
  rw [ht] at hP1
  obtain ⟨hP2, hD2⟩ := va_join hP hD isC isR hC hR hnR hdis hk1 hFc hP1 hD1
  exact kk u H1 locs1 hw hP2 hD2 hS1
theorem k_rV {post : va_W × Nat → Prop} (S : CallFix p m c cc nL s args Ts own) (hM : Met l y ws rm (va_Pc (.ref b :: As) (PW D tys wc H.size)) (QR D post wc H.size) mc ms (va_A wc H.size)) (cw : CallW R s args own C index y bytes maxL ret ws rm mc ms n) (hK : va_K D vwCl tys s) (hO : NW s) (hP : va_P D vwCl W0 H) (hD : va_D A W0) (hS : va_S A H0 H locs) (hA : ∀ q, H0.size ≤ q → A q) (isC isR : List Nat) (hCf : isC.filterMap (fun i => W0[i]?) = wc) (hC : isC.map (fun i => W0[i]?) = wc.map some) (hR : isR.map (fun i => W0[i]?) = wr.map some) (hnC : va_nd isC = true) (hnR : va_nd isR = true) (hdis : ∀ i ∈ isR, i ∉ isC) (ci q0 : Nat) (hc : vwCl[ci]? = some (C, T, N)) (he : wc[q0]? = some (b, .inr (ci, fs))) (hn : As.length = n) (hsz : ls.size = nL) (hst : st = As.reverse ++ .ref b :: rest) (hW : (rest.map fun v => v.category).sum ≤ 8) (hdg : decode cc pc = .ok (.invokevirtual index, 3)) (hf : cells + mc ≤ R.cells ∧ slots + ms ≤ R.slots)
    (kk : ∀ (u : va_W) (ra : Nat) (H1 : Heap) (locs1 : List Loc), post (u, ra) → va_P D vwCl (wr ++ u) H1 → va_D A (wr ++ u) → va_S A H0 H1 locs1 → W p l e R s m args below meth c H1 locs1 (cells + mc) (slots + ms) Q (F0 m (pc + 3) ls (.ref ra :: rest))) : W p l e R s m args below meth c H locs cells slots Q (F0 m pc ls st) := by
  have hPc := hP.sub isC hCf
  have hDc := hD.sub isC hnC hC
  have hFc := va_free hD hS hA isC hC
  refine va_callr (va_runV S hM cw ⟨k_blind, va_recv hK hPc hc he, fun U hU hW => ⟨rfl, by rw [hU], by rw [hU]; exact hPc, va_K.moved hW.alike hK, hDc.weaken (fun _ _ _ _ => trivial), NW.warm hW hO⟩⟩ rfl hn hsz hst (lv_room hW) hdg hf) hS (fun q _ h => hFc q h) hFc (fun u ra t H1 locs1 ht hvm hw hB hz1 hk1 hS1 => ?_)
  obtain ⟨ea, hP1, hD1⟩ := hB
  subst ea
  rw [ht] at hP1
  obtain ⟨hP2, hD2⟩ := va_join hP hD isC isR hC hR hnR hdis hk1 hFc hP1 hD1
  exact kk u.1 u.2 H1 locs1 hw hP2 hD2 hS1
theorem k_iS {post : Int32 → va_W → Prop} (S : CallFix p m c cc nL s args Ts own) (hM : Met l y ws rm (va_Pc As (PW D tys wc H.size)) (QI D post wc H.size) mc ms (va_A wc H.size)) (cw : CallB R s args own index y bytes maxL ret ws rm mc ms n ∧ (Cond.static y).before args s = true) (hK : va_K D vwCl tys s) (hO : NW s) (hP : va_P D vwCl W0 H) (hD : va_D A W0) (hS : va_S A H0 H locs) (hA : ∀ q, H0.size ≤ q → A q) (isC isR : List Nat) (hCf : isC.filterMap (fun i => W0[i]?) = wc) (hC : isC.map (fun i => W0[i]?) = wc.map some) (hR : isR.map (fun i => W0[i]?) = wr.map some) (hnC : va_nd isC = true) (hnR : va_nd isR = true) (hdis : ∀ i ∈ isR, i ∉ isC) (hn : As.length = n) (hsz : ls.size = nL) (hst : st = As.reverse ++ rest) (hW : (rest.map fun v => v.category).sum ≤ 8) (hdg : decode cc pc = .ok (.invokestatic index, 3)) (hf : cells + mc ≤ R.cells ∧ slots + ms ≤ R.slots)
    (kk : ∀ (r : Int32) (u : va_W) (H1 : Heap) (locs1 : List Loc), post r u → va_P D vwCl (wr ++ u) H1 → va_D A (wr ++ u) → va_S A H0 H1 locs1 → W p l e R s m args below meth c H1 locs1 (cells + mc) (slots + ms) Q (F0 m (pc + 3) ls (.int r :: rest))) : W p l e R s m args below meth c H locs cells slots Q (F0 m pc ls st) := by
  have hPc := hP.sub isC hCf
  have hDc := hD.sub isC hnC hC
  have hFc := va_free hD hS hA isC hC
  refine va_calli (va_runS S hM cw ⟨k_blind, fun U hU hW => ⟨rfl, by rw [hU], by rw [hU]; exact hPc, va_K.moved hW.alike hK, hDc.weaken (fun _ _ _ _ => trivial), NW.warm hW hO⟩⟩ rfl hn hsz hst (lv_room hW) hdg hf) hS (fun q _ h => hFc q h) hFc (fun r u t H1 locs1 ht hvm hw hB hz1 hk1 hS1 => ?_)
  obtain ⟨hP1, hD1⟩ := hB
  rw [ht] at hP1
  obtain ⟨hP2, hD2⟩ := va_join hP hD isC isR hC hR hnR hdis hk1 hFc hP1 hD1
  exact kk r u H1 locs1 hw hP2 hD2 hS1
theorem k_vS {post : va_W → Prop} (S : CallFix p m c cc nL s args Ts own) (hM : Met l y ws rm (va_Pc As (PW D tys wc H.size)) (QV D post wc H.size) mc ms (va_A wc H.size)) (cw : CallB R s args own index y bytes maxL ret ws rm mc ms n ∧ (Cond.static y).before args s = true) (hK : va_K D vwCl tys s) (hO : NW s) (hP : va_P D vwCl W0 H) (hD : va_D A W0) (hS : va_S A H0 H locs) (hA : ∀ q, H0.size ≤ q → A q) (isC isR : List Nat) (hCf : isC.filterMap (fun i => W0[i]?) = wc) (hC : isC.map (fun i => W0[i]?) = wc.map some) (hR : isR.map (fun i => W0[i]?) = wr.map some) (hnC : va_nd isC = true) (hnR : va_nd isR = true) (hdis : ∀ i ∈ isR, i ∉ isC) (hn : As.length = n) (hsz : ls.size = nL) (hst : st = As.reverse ++ rest) (hW : (rest.map fun v => v.category).sum ≤ 8) (hdg : decode cc pc = .ok (.invokestatic index, 3)) (hf : cells + mc ≤ R.cells ∧ slots + ms ≤ R.slots)
    (kk : ∀ (u : va_W) (H1 : Heap) (locs1 : List Loc), post u → va_P D vwCl (wr ++ u) H1 → va_D A (wr ++ u) → va_S A H0 H1 locs1 → W p l e R s m args below meth c H1 locs1 (cells + mc) (slots + ms) Q (F0 m (pc + 3) ls rest)) : W p l e R s m args below meth c H locs cells slots Q (F0 m pc ls st) := by
  have hPc := hP.sub isC hCf
  have hDc := hD.sub isC hnC hC
  have hFc := va_free hD hS hA isC hC
  refine va_callv (va_runS S hM cw ⟨k_blind, fun U hU hW => ⟨rfl, by rw [hU], by rw [hU]; exact hPc, va_K.moved hW.alike hK, hDc.weaken (fun _ _ _ _ => trivial), NW.warm hW hO⟩⟩ rfl hn hsz hst (lv_room hW) hdg hf) hS (fun q _ h => hFc q h) hFc (fun u t H1 locs1 ht hvm hw hB hz1 hk1 hS1 => ?_)
  obtain ⟨hP1, hD1⟩ := hB
  rw [ht] at hP1
  obtain ⟨hP2, hD2⟩ := va_join hP hD isC isR hC hR hnR hdis hk1 hFc hP1 hD1
  exact kk u H1 locs1 hw hP2 hD2 hS1
theorem k_vI {post : va_W → Prop} (S : CallFix p m c cc nL s args Ts own) (hM : Met l y ws rm (va_Pc (.ref b :: As) (PW D tys wc H.size)) (QV D post wc H.size) mc ms (va_A wc H.size)) (cw : CallB R s args own index y bytes maxL none ws rm mc ms n ∧ y.name = "<init>" ∧ (Cond.instanceMethod y).before args s = true) (hK : va_K D vwCl tys s) (hO : NW s) (hP : va_P D vwCl W0 H) (hD : va_D A W0) (hS : va_S A H0 H locs) (hA : ∀ q, H0.size ≤ q → A q) (isC isR : List Nat) (hCf : isC.filterMap (fun i => W0[i]?) = wc) (hC : isC.map (fun i => W0[i]?) = wc.map some) (hR : isR.map (fun i => W0[i]?) = wr.map some) (hnC : va_nd isC = true) (hnR : va_nd isR = true) (hdis : ∀ i ∈ isR, i ∉ isC) (hn : As.length = n) (hsz : ls.size = nL) (hst : st = As.reverse ++ .ref b :: rest) (hW : (rest.map fun v => v.category).sum ≤ 8) (hdg : decode cc pc = .ok (.invokespecial index, 3)) (hf : cells + mc ≤ R.cells ∧ slots + ms ≤ R.slots)
    (kk : ∀ (u : va_W) (H1 : Heap) (locs1 : List Loc), post u → va_P D vwCl (wr ++ u) H1 → va_D A (wr ++ u) → va_S A H0 H1 locs1 → W p l e R s m args below meth c H1 locs1 (cells + mc) (slots + ms) Q (F0 m (pc + 3) ls rest)) : W p l e R s m args below meth c H locs cells slots Q (F0 m pc ls st) := by
  have hPc := hP.sub isC hCf
  have hDc := hD.sub isC hnC hC
  have hFc := va_free hD hS hA isC hC
  refine va_callv (va_runI S hM cw ⟨k_blind, fun U hU hW => ⟨rfl, by rw [hU], by rw [hU]; exact hPc, va_K.moved hW.alike hK, hDc.weaken (fun _ _ _ _ => trivial), NW.warm hW hO⟩⟩ rfl hn hsz hst (lv_room hW) hdg hf) hS (fun q _ h => hFc q h) hFc (fun u t H1 locs1 ht hvm hw hB hz1 hk1 hS1 => ?_)
  obtain ⟨hP1, hD1⟩ := hB
  rw [ht] at hP1
  obtain ⟨hP2, hD2⟩ := va_join hP hD isC isR hC hR hnR hdis hk1 hFc hP1 hD1
  exact kk u H1 locs1 hw hP2 hD2 hS1
theorem k_vIN {post : va_W → Prop} (S : CallFix p m c cc nL s args Ts own) (hM : Met l y ws rm (va_Pc (.ref b :: As) (PW D tys wc H.size)) (QV D post wc H.size) mc ms (va_A wc H.size)) {host : String} (cw : va_CN R s args own index y host bytes maxL none ws rm mc ms n ∧ y.name = "<init>" ∧ (Cond.instanceMethod y).before args s = true) (hK : va_K D vwCl tys s) (hO : NW s) (hP : va_P D vwCl W0 H) (hD : va_D A W0) (hS : va_S A H0 H locs) (hA : ∀ q, H0.size ≤ q → A q) (isC isR : List Nat) (hCf : isC.filterMap (fun i => W0[i]?) = wc) (hC : isC.map (fun i => W0[i]?) = wc.map some) (hR : isR.map (fun i => W0[i]?) = wr.map some) (hnC : va_nd isC = true) (hnR : va_nd isR = true) (hdis : ∀ i ∈ isR, i ∉ isC) (hn : As.length = n) (hsz : ls.size = nL) (hst : st = As.reverse ++ .ref b :: rest) (hW : (rest.map fun v => v.category).sum ≤ 8) (hdg : decode cc pc = .ok (.invokespecial index, 3)) (hf : cells + mc ≤ R.cells ∧ slots + ms ≤ R.slots)
    (kk : ∀ (u : va_W) (H1 : Heap) (locs1 : List Loc), post u → va_P D vwCl (wr ++ u) H1 → va_D A (wr ++ u) → va_S A H0 H1 locs1 → W p l e R s m args below meth c H1 locs1 (cells + mc) (slots + ms) Q (F0 m (pc + 3) ls rest)) : W p l e R s m args below meth c H locs cells slots Q (F0 m pc ls st) := by
  have hPc := hP.sub isC hCf
  have hDc := hD.sub isC hnC hC
  have hFc := va_free hD hS hA isC hC
  refine va_callv (va_runIN S hM cw ⟨k_blind, fun U hU hW => ⟨rfl, by rw [hU], by rw [hU]; exact hPc, va_K.moved hW.alike hK, hDc.weaken (fun _ _ _ _ => trivial), NW.warm hW hO⟩⟩ rfl hn hsz hst (lv_room hW) hdg hf) hS (fun q _ h => hFc q h) hFc (fun u t H1 locs1 ht hvm hw hB hz1 hk1 hS1 => ?_)
  obtain ⟨hP1, hD1⟩ := hB
  rw [ht] at hP1
  obtain ⟨hP2, hD2⟩ := va_join hP hD isC isR hC hR hnR hdis hk1 hFc hP1 hD1
  exact kk u H1 locs1 hw hP2 hD2 hS1
-- a new row of numbers: its class is the one that is known already
theorem k_newa (hexec : p.tables.exec = Jvm.exec) (hb : c.code = cc) {atype : ArrayType} (harr : (Cond.arrayClass (newarray.typeOf atype)).before args s = true) {ty : FieldType} (hty : newarray.typeOf atype = ty) {cA : ClassId} (hprim : ∀ x : ClassId, va_RA s x ty → s.vm.findClass ("[" ++ ty.toString) = some x) (t0 : Nat) (ht : tys[t0]? = some (cA, ty)) (hK : va_K D vwCl tys s) (hP : va_P D vwCl W0 H) (hD : va_D A W0) (hS : va_S A H0 H locs) (hA : ∀ q, H0.size ≤ q → A q) {n : Int32} {N' : Nat} {a0 : vp_A} (ha : ∀ cA : ClassId, vp_cell cA a0 = arrV cA N' (fun _ => defaultValue ty)) (hn : ¬ n < 0) (hN : n.toNatClampNeg = N') (hbytes : N' * componentBytes ty ≤ 536870912) (hcells : cells + 1 ≤ R.cells) (hslots : slots + N' ≤ R.slots) (hdg : decode cc pc = .ok (.newarray atype, 2))
    (kk : ∀ (q : Nat) (H1 : Heap), va_P D vwCl (W0 ++ [(q, .inl (cA, a0))]) H1 → va_D A (W0 ++ [(q, .inl (cA, a0))]) → va_S A H0 H1 locs → W p l e R s m args below meth c H1 locs (cells + 1) (slots + N') Q (F0 m (pc + 2) ls (.ref q :: rest))) : W p l e R s m args below meth c H locs cells slots Q (F0 m pc ls (.int n :: rest)) := by
  refine va_newa hexec hb harr hty hK hP hD hS hA ha hn hN hbytes hcells hslots hdg (fun q cA' H1 hK1 hP1 hD1 hS1 => ?_)
  have h1 := hprim cA (hK.2 t0 _ ht).2
  have h2 := hprim cA' (hK1.2 tys.length (cA', ty) (by simp)).2
  have he : cA' = cA := Option.some.inj (h2.symm.trans h1)
  subst he
  exact kk q H1 hP1 hD1 hS1
theorem k_newq (hexec : p.tables.exec = Jvm.exec) (hb : c.code = cc) (hown : s.vm.findClass own = some m.cls) (hclink : (Cond.classLink own index "OnlyHalves$Market").before args s = true) (hO : NW s) {cA : ClassId} (t0 : Nat) (ht : tys[t0]? = some (cA, .object "OnlyHalves$Market")) (hK : va_K D vwCl tys s) (hP : va_P D vwCl W0 H) (hD : va_D A W0) (hS : va_S A H0 H locs) (hA : ∀ q, H0.size ≤ q → A q) {n : Int32} {N' : Nat} (hn : ¬ n < 0) (hN : n.toNatClampNeg = N') (hbytes : N' * 4 ≤ 536870912) (hcells : cells + 1 ≤ R.cells) (hslots : slots + N' ≤ R.slots) (hdg : decode cc pc = .ok (.anewarray index, 3))
    (kk : ∀ (q : Nat) (H1 : Heap), va_P D vwCl (W0 ++ [(q, .inl (cA, N', .inr (.inr (.inr (.inr (fun _ => none))))))]) H1 → va_D A (W0 ++ [(q, .inl (cA, N', .inr (.inr (.inr (.inr (fun _ => none))))))]) → va_S A H0 H1 locs → W p l e R s m args below meth c H1 locs (cells + 1) (slots + N') Q (F0 m (pc + 3) ls (.ref q :: rest))) : W p l e R s m args below meth c H locs cells slots Q (F0 m pc ls (.int n :: rest)) := by
  refine va_newq hexec hb hown hclink hO.1 hK hP hD hS hA hn hN hbytes hcells hslots hdg (fun q cA' H1 hK1 hP1 hD1 hS1 => ?_)
  obtain ⟨kA, comp, -, -, -, h1⟩ := (hK.2 t0 _ ht).2
  obtain ⟨kB, comp2, -, -, -, h2⟩ := (hK1.2 tys.length (cA', .object "OnlyHalves$Market") (by simp)).2
  have he : cA' = cA := Option.some.inj (h2.symm.trans h1)
  subst he
  exact kk q H1 hP1 hD1 hS1
end KC
theorem k_prI {s : State} : ∀ x : ClassId, va_RA s x .int → s.vm.findClass ("[" ++ FieldType.int.toString) = some x := fun _ h => h
theorem k_prJ {s : State} : ∀ x : ClassId, va_RA s x .long → s.vm.findClass ("[" ++ FieldType.long.toString) = some x := fun _ h => h
theorem k_prB {s : State} : ∀ x : ClassId, va_RA s x .byte → s.vm.findClass ("[" ++ FieldType.byte.toString) = some x := fun _ h => h
theorem k_prZ {s : State} : ∀ x : ClassId, va_RA s x .boolean → s.vm.findClass ("[" ++ FieldType.boolean.toString) = some x := fun _ h => h
theorem k_upd0 (k : Nat) : upd (fun _ => (0 : Int32)) k 0 = fun _ => (0 : Int32) := by funext j; simp [upd]
theorem k_upd0L (k : Nat) : vp_updL (fun _ => (0 : Int64)) k 0 = fun _ => (0 : Int64) := by funext j; simp [vp_updL]
theorem k_and_m1 (x : Int32) : x &&& (-1) = x := by
  apply Int32.toBitVec_inj.mp
  simp
-- the two places of a row of two
def k_two (a b : Nat) : Nat → Option Nat := fun j => if j = 0 then some a else if j = 1 then some b else none
theorem k_two_eq (a b : Nat) : va_up (va_up (fun _ => none) (Int32.toNatClampNeg 0) (some a)) (Int32.toNatClampNeg 1) (some b) = k_two a b := by
  funext j
  have e0 : Int32.toNatClampNeg 0 = 0 := by decide
  have e1 : Int32.toNatClampNeg 1 = 1 := by decide
  rw [e0, e1]
  by_cases h1 : j = 1
  · subst h1; simp [va_up, k_two]
  · by_cases h0 : j = 0
    · subst h0; simp [va_up, k_two]
    · simp [va_up, k_two, h0, h1]
theorem in_X9_init_X9 : ∀ w ∈ u_ws RX9 TX9 4, w ∈ wsX9_init := fun _ h => List.mem_cons_of_mem _ (List.mem_append_right _ h)
theorem in_X2_init_X2 : ∀ w ∈ u_ws RX2 TX2 12, w ∈ wsX2_init := fun _ h => List.mem_cons_of_mem _ (List.mem_append_right _ h)
theorem in_X5_init_X5 : ∀ w ∈ u_ws RX5 TX5 8, w ∈ wsX5_init := fun _ h => List.mem_cons_of_mem _ (List.mem_append_right _ h)
theorem in_X10_init_X10 : ∀ w ∈ u_ws RX10 TX10 9, w ∈ wsX10_init := fun _ h => List.mem_cons_of_mem _ (List.mem_append_right _ h)
theorem in_X6_init_X6 : ∀ w ∈ u_ws RX6 TX6 2, w ∈ wsX6_init := fun _ h => List.mem_cons_of_mem _ (List.mem_append_right _ h)
theorem in_X4_init_X4 : ∀ w ∈ u_ws RX4 TX4 5, w ∈ wsX4_init := fun _ h => List.mem_cons_of_mem _ (List.mem_append_right _ h)
theorem in_X0_init_X0 : ∀ w ∈ u_ws RX0 TX0 5, w ∈ wsX0_init := fun _ h => List.mem_cons_of_mem _ (List.mem_append_right _ h)
theorem in_X11_init_X0 : ∀ w ∈ u_ws RX0 TX0 5, w ∈ wsX11_init := fun _ h => List.mem_cons_of_mem _ (List.mem_append_left _ (List.mem_append_left _ (List.mem_append_left _ (List.mem_append_left _ (List.mem_append_left _ (List.mem_append_left _ (List.mem_append_left _ (List.mem_append_left _ (List.mem_append_left _ (List.mem_append_right _ h))))))))))
theorem in_X11_init_X1 : ∀ w ∈ u_ws RX1 TX1 4, w ∈ wsX11_init := fun _ h => List.mem_cons_of_mem _ (List.mem_append_left _ (List.mem_append_left _ (List.mem_append_left _ (List.mem_append_left _ (List.mem_append_left _ (List.mem_append_left _ (List.mem_append_left _ (List.mem_append_left _ (List.mem_append_right _ h)))))))))
theorem in_X11_init_X10 : ∀ w ∈ u_ws RX10 TX10 9, w ∈ wsX11_init := fun _ h => List.mem_cons_of_mem _ (List.mem_append_left _ (List.mem_append_left _ (List.mem_append_left _ (List.mem_append_left _ (List.mem_append_left _ (List.mem_append_left _ (List.mem_append_left _ (List.mem_append_right _ h))))))))
theorem in_X11_init_X11 : ∀ w ∈ u_ws RX11 TX11 15, w ∈ wsX11_init := fun _ h => List.mem_cons_of_mem _ (List.mem_append_left _ (List.mem_append_left _ (List.mem_append_left _ (List.mem_append_left _ (List.mem_append_left _ (List.mem_append_left _ (List.mem_append_right _ h)))))))
theorem in_X11_init_X2 : ∀ w ∈ u_ws RX2 TX2 12, w ∈ wsX11_init := fun _ h => List.mem_cons_of_mem _ (List.mem_append_left _ (List.mem_append_left _ (List.mem_append_left _ (List.mem_append_left _ (List.mem_append_left _ (List.mem_append_right _ h))))))
theorem in_X11_init_X3 : ∀ w ∈ u_ws RX3 TX3 3, w ∈ wsX11_init := fun _ h => List.mem_cons_of_mem _ (List.mem_append_left _ (List.mem_append_left _ (List.mem_append_left _ (List.mem_append_left _ (List.mem_append_right _ h)))))
theorem in_X11_init_X4 : ∀ w ∈ u_ws RX4 TX4 5, w ∈ wsX11_init := fun _ h => List.mem_cons_of_mem _ (List.mem_append_left _ (List.mem_append_left _ (List.mem_append_left _ (List.mem_append_right _ h))))
theorem in_X11_init_X5 : ∀ w ∈ u_ws RX5 TX5 8, w ∈ wsX11_init := fun _ h => List.mem_cons_of_mem _ (List.mem_append_left _ (List.mem_append_left _ (List.mem_append_right _ h)))
theorem in_X11_init_X6 : ∀ w ∈ u_ws RX6 TX6 2, w ∈ wsX11_init := fun _ h => List.mem_cons_of_mem _ (List.mem_append_left _ (List.mem_append_right _ h))
theorem in_X11_init_X9 : ∀ w ∈ u_ws RX9 TX9 4, w ∈ wsX11_init := fun _ h => List.mem_cons_of_mem _ (List.mem_append_right _ h)
theorem in_X12_init_X12 : ∀ w ∈ u_ws RX12 TX12 59, w ∈ wsX12_init := fun _ h => List.mem_cons_of_mem _ (List.mem_append_right _ h)
theorem in_X2_hasPerson_X2 : ∀ w ∈ u_ws RX2 TX2 12, w ∈ wsX2_hasPerson := fun _ h => List.mem_cons_of_mem _ (List.mem_append_right _ h)
theorem in_X11_of_X11 : ∀ w ∈ u_ws RX11 TX11 15, w ∈ wsX11_of := fun _ h => List.mem_cons_of_mem _ (List.mem_append_left _ (List.mem_append_left _ (List.mem_append_right _ h)))
theorem in_X2_hasThing_X2 : ∀ w ∈ u_ws RX2 TX2 12, w ∈ wsX2_hasThing := fun _ h => List.mem_cons_of_mem _ (List.mem_append_right _ h)
theorem in_X11_thing_X11 : ∀ w ∈ u_ws RX11 TX11 15, w ∈ wsX11_thing := fun _ h => List.mem_cons_of_mem _ (List.mem_append_left _ (List.mem_append_left _ (List.mem_append_right _ h)))
theorem in_X11_row_X11 : ∀ w ∈ u_ws RX11 TX11 15, w ∈ wsX11_row := fun _ h => List.mem_cons_of_mem _ (List.mem_append_left _ (List.mem_append_right _ h))
theorem in_X9_addFour_X9 : ∀ w ∈ u_ws RX9 TX9 4, w ∈ wsX9_addFour := fun _ h => List.mem_cons_of_mem _ (List.mem_append_right _ h)
theorem in_X9_length_X9 : ∀ w ∈ u_ws RX9 TX9 4, w ∈ wsX9_length := fun _ h => List.mem_cons_of_mem _ (List.mem_append_right _ h)
theorem in_X11_sign_X11 : ∀ w ∈ u_ws RX11 TX11 15, w ∈ wsX11_sign := fun _ h => List.mem_cons_of_mem _ (List.mem_append_left _ (List.mem_append_right _ h))
theorem in_X12_sign_X12 : ∀ w ∈ u_ws RX12 TX12 59, w ∈ wsX12_sign := fun _ h => List.mem_cons_of_mem _ (List.mem_append_right _ h)
theorem in_X9_cut_X9 : ∀ w ∈ u_ws RX9 TX9 4, w ∈ wsX9_cut := fun _ h => List.mem_cons_of_mem _ (List.mem_append_right _ h)
theorem in_X11_end_X11 : ∀ w ∈ u_ws RX11 TX11 15, w ∈ wsX11_end := fun _ h => List.mem_cons_of_mem _ (List.mem_append_left _ (List.mem_append_right _ h))
theorem in_X12_end_X12 : ∀ w ∈ u_ws RX12 TX12 59, w ∈ wsX12_end := fun _ h => List.mem_cons_of_mem _ (List.mem_append_right _ h)
theorem in_X11_market_X11 : ∀ w ∈ u_ws RX11 TX11 15, w ∈ wsX11_market := fun _ h => List.mem_cons_of_mem _ (List.mem_append_left _ (List.mem_append_right _ h))
theorem in_X12_begin_X12 : ∀ w ∈ u_ws RX12 TX12 59, w ∈ wsX12_begin := fun _ h => List.mem_cons_of_mem _ (List.mem_append_right _ h)
theorem in_X12_market_X12 : ∀ w ∈ u_ws RX12 TX12 59, w ∈ wsX12_market := fun _ h => List.mem_cons_of_mem _ (List.mem_append_right _ h)
theorem in_X9_startReading_X9 : ∀ w ∈ u_ws RX9 TX9 4, w ∈ wsX9_startReading := fun _ h => List.mem_cons_of_mem _ (List.mem_append_right _ h)
theorem in_X5_take_X5 : ∀ w ∈ u_ws RX5 TX5 8, w ∈ wsX5_take := fun _ h => List.mem_cons_of_mem _ (List.mem_append_right _ h)
theorem in_X6_read_X6 : ∀ w ∈ u_ws RX6 TX6 2, w ∈ wsX6_read := fun _ h => List.mem_cons_of_mem _ (List.mem_append_left _ (List.mem_append_left _ (List.mem_append_right _ h)))
theorem in_X11_rule_X11 : ∀ w ∈ u_ws RX11 TX11 15, w ∈ wsX11_rule := fun _ h => List.mem_cons_of_mem _ (List.mem_append_left _ (List.mem_append_left _ (List.mem_append_left _ (List.mem_append_right _ h))))
theorem in_X12_rule_X12 : ∀ w ∈ u_ws RX12 TX12 59, w ∈ wsX12_rule := fun _ h => List.mem_cons_of_mem _ (List.mem_append_right _ h)
theorem in_X12_isOne_X12 : ∀ w ∈ u_ws RX12 TX12 59, w ∈ wsX12_isOne := fun _ h => List.mem_cons_of_mem _ (List.mem_append_right _ h)
theorem in_X12_lost_X12 : ∀ w ∈ u_ws RX12 TX12 59, w ∈ wsX12_lost := fun _ h => List.mem_cons_of_mem _ (List.mem_append_right _ h)
theorem in_X12_of_X12 : ∀ w ∈ u_ws RX12 TX12 59, w ∈ wsX12_of := fun _ h => List.mem_cons_of_mem _ (List.mem_append_right _ h)
theorem in_X12_thrown_X12 : ∀ w ∈ u_ws RX12 TX12 59, w ∈ wsX12_thrown := fun _ h => List.mem_cons_of_mem _ (List.mem_append_right _ h)
theorem in_X12_isThing_X12 : ∀ w ∈ u_ws RX12 TX12 59, w ∈ wsX12_isThing := fun _ h => List.mem_cons_of_mem _ (List.mem_append_right _ h)
theorem in_X12_thing_X12 : ∀ w ∈ u_ws RX12 TX12 59, w ∈ wsX12_thing := fun _ h => List.mem_cons_of_mem _ (List.mem_append_right _ h)
theorem in_X11_areTwo_X11 : ∀ w ∈ u_ws RX11 TX11 15, w ∈ wsX11_areTwo := fun _ h => List.mem_cons_of_mem _ (List.mem_append_left _ (List.mem_append_right _ h))
theorem in_X12_between_X12 : ∀ w ∈ u_ws RX12 TX12 59, w ∈ wsX12_between := fun _ h => List.mem_cons_of_mem _ (List.mem_append_right _ h)
theorem in_X11_law_X10 : ∀ w ∈ u_ws RX10 TX10 9, w ∈ wsX11_law := fun _ h => List.mem_cons_of_mem _ (List.mem_append_left _ (List.mem_append_right _ h))
theorem in_X11_law_X11 : ∀ w ∈ u_ws RX11 TX11 15, w ∈ wsX11_law := fun _ h => List.mem_cons_of_mem _ (List.mem_append_right _ h)
theorem in_X12_law_X12 : ∀ w ∈ u_ws RX12 TX12 59, w ∈ wsX12_law := fun _ h => List.mem_cons_of_mem _ (List.mem_append_right _ h)
theorem in_X2_setAllValues_X2 : ∀ w ∈ u_ws RX2 TX2 12, w ∈ wsX2_setAllValues := fun _ h => List.mem_cons_of_mem _ (List.mem_append_right _ h)
theorem in_X11_sheet_X11 : ∀ w ∈ u_ws RX11 TX11 15, w ∈ wsX11_sheet := fun _ h => List.mem_cons_of_mem _ (List.mem_append_left _ (List.mem_append_right _ h))
theorem in_X11_sheet_X2 : ∀ w ∈ u_ws RX2 TX2 12, w ∈ wsX11_sheet := fun _ h => List.mem_cons_of_mem _ (List.mem_append_right _ h)
theorem in_X12_sheet_X12 : ∀ w ∈ u_ws RX12 TX12 59, w ∈ wsX12_sheet := fun _ h => List.mem_cons_of_mem _ (List.mem_append_right _ h)
theorem in_X2_halves_X2 : ∀ w ∈ u_ws RX2 TX2 12, w ∈ wsX2_halves := fun _ h => List.mem_cons_of_mem _ (List.mem_append_right _ h)
theorem in_X11_areHalfAndPerson_X11 : ∀ w ∈ u_ws RX11 TX11 15, w ∈ wsX11_areHalfAndPerson := fun _ h => List.mem_cons_of_mem _ (List.mem_append_left _ (List.mem_append_right _ h))
theorem in_X12_isHalf_X12 : ∀ w ∈ u_ws RX12 TX12 59, w ∈ wsX12_isHalf := fun _ h => List.mem_cons_of_mem _ (List.mem_append_right _ h)
theorem in_X12_worth_X12 : ∀ w ∈ u_ws RX12 TX12 59, w ∈ wsX12_worth := fun _ h => List.mem_cons_of_mem _ (List.mem_append_right _ h)
theorem in_X12_can_X12 : ∀ w ∈ u_ws RX12 TX12 59, w ∈ wsX12_can := fun _ h => List.mem_cons_of_mem _ (List.mem_append_right _ h)
theorem in_X12_sell_X12 : ∀ w ∈ u_ws RX12 TX12 59, w ∈ wsX12_sell := fun _ h => List.mem_cons_of_mem _ (List.mem_append_right _ h)
theorem in_X4_takeBack_X4 : ∀ w ∈ u_ws RX4 TX4 5, w ∈ wsX4_takeBack := fun _ h => List.mem_cons_of_mem _ (List.mem_append_right _ h)
theorem in_X11_undo_X11 : ∀ w ∈ u_ws RX11 TX11 15, w ∈ wsX11_undo := fun _ h => List.mem_cons_of_mem _ (List.mem_append_left _ (List.mem_append_right _ h))
theorem in_X12_undo_X12 : ∀ w ∈ u_ws RX12 TX12 59, w ∈ wsX12_undo := fun _ h => List.mem_cons_of_mem _ (List.mem_append_right _ h)
theorem in_X2_copy_X2 : ∀ w ∈ u_ws RX2 TX2 12, w ∈ wsX2_copy := fun _ h => List.mem_cons_of_mem _ (List.mem_append_right _ h)
theorem in_X11_clearRow_X11 : ∀ w ∈ u_ws RX11 TX11 15, w ∈ wsX11_clearRow := fun _ h => List.mem_cons_of_mem _ (List.mem_append_right _ h)
theorem in_X11_tell_X11 : ∀ w ∈ u_ws RX11 TX11 15, w ∈ wsX11_tell := fun _ h => List.mem_cons_of_mem _ (List.mem_append_right _ h)
theorem in_X11_judge_X11 : ∀ w ∈ u_ws RX11 TX11 15, w ∈ wsX11_judge := fun _ h => List.mem_cons_of_mem _ (List.mem_append_left _ (List.mem_append_right _ h))
theorem in_X12_lay_X12 : ∀ w ∈ u_ws RX12 TX12 59, w ∈ wsX12_lay := fun _ h => List.mem_cons_of_mem _ (List.mem_append_right _ h)
theorem in_X12_bring_X12 : ∀ w ∈ u_ws RX12 TX12 59, w ∈ wsX12_bring := fun _ h => List.mem_cons_of_mem _ (List.mem_append_right _ h)
theorem in_X12_tell_X12 : ∀ w ∈ u_ws RX12 TX12 59, w ∈ wsX12_tell := fun _ h => List.mem_cons_of_mem _ (List.mem_append_right _ h)
theorem in_X12_judge_X12 : ∀ w ∈ u_ws RX12 TX12 59, w ∈ wsX12_judge := fun _ h => List.mem_cons_of_mem _ (List.mem_append_right _ h)
theorem in_X10_survey_X10 : ∀ w ∈ u_ws RX10 TX10 9, w ∈ wsX10_survey := fun _ h => List.mem_cons_of_mem _ (List.mem_append_left _ (List.mem_append_right _ h))
theorem in_X11_open_X10 : ∀ w ∈ u_ws RX10 TX10 9, w ∈ wsX11_open := fun _ h => List.mem_cons_of_mem _ (List.mem_append_left _ (List.mem_append_left _ (List.mem_append_right _ h)))
theorem in_X11_open_X11 : ∀ w ∈ u_ws RX11 TX11 15, w ∈ wsX11_open := fun _ h => List.mem_cons_of_mem _ (List.mem_append_left _ (List.mem_append_right _ h))
theorem in_X12_findOpen_X12 : ∀ w ∈ u_ws RX12 TX12 59, w ∈ wsX12_findOpen := fun _ h => List.mem_cons_of_mem _ (List.mem_append_right _ h)
theorem in_X12_open_X12 : ∀ w ∈ u_ws RX12 TX12 59, w ∈ wsX12_open := fun _ h => List.mem_cons_of_mem _ (List.mem_append_right _ h)
theorem in_X11_run_X10 : ∀ w ∈ u_ws RX10 TX10 9, w ∈ wsX11_run := fun _ h => List.mem_cons_of_mem _ (List.mem_append_left _ (List.mem_append_left _ (List.mem_append_right _ h)))
theorem in_X11_run_X11 : ∀ w ∈ u_ws RX11 TX11 15, w ∈ wsX11_run := fun _ h => List.mem_cons_of_mem _ (List.mem_append_left _ (List.mem_append_right _ h))
theorem in_X12_run_X12 : ∀ w ∈ u_ws RX12 TX12 59, w ∈ wsX12_run := fun _ h => List.mem_cons_of_mem _ (List.mem_append_right _ h)
theorem in_X12_partner_X12 : ∀ w ∈ u_ws RX12 TX12 59, w ∈ wsX12_partner := fun _ h => List.mem_cons_of_mem _ (List.mem_append_right _ h)
theorem in_X2_allThings_X2 : ∀ w ∈ u_ws RX2 TX2 12, w ∈ wsX2_allThings := fun _ h => List.mem_cons_of_mem _ (List.mem_append_right _ h)
theorem in_X2_barredBits_X2 : ∀ w ∈ u_ws RX2 TX2 12, w ∈ wsX2_barredBits := fun _ h => List.mem_cons_of_mem _ (List.mem_append_right _ h)
theorem in_X1_choose_X1 : ∀ w ∈ u_ws RX1 TX1 4, w ∈ wsX1_choose := fun _ h => List.mem_cons_of_mem _ (List.mem_append_right _ h)
theorem in_X1_mostOf_X1 : ∀ w ∈ u_ws RX1 TX1 4, w ∈ wsX1_mostOf := fun _ h => List.mem_cons_of_mem _ (List.mem_append_left _ (List.mem_append_right _ h))
theorem in_X1_mostOf_X2 : ∀ w ∈ u_ws RX2 TX2 12, w ∈ wsX1_mostOf := fun _ h => List.mem_cons_of_mem _ (List.mem_append_right _ h)
theorem in_X11_day_X1 : ∀ w ∈ u_ws RX1 TX1 4, w ∈ wsX11_day := fun _ h => List.mem_cons_of_mem _ (List.mem_append_left _ (List.mem_append_left _ (List.mem_append_right _ h)))
theorem in_X11_day_X11 : ∀ w ∈ u_ws RX11 TX11 15, w ∈ wsX11_day := fun _ h => List.mem_cons_of_mem _ (List.mem_append_left _ (List.mem_append_right _ h))
theorem in_X12_findDay_X12 : ∀ w ∈ u_ws RX12 TX12 59, w ∈ wsX12_findDay := fun _ h => List.mem_cons_of_mem _ (List.mem_append_right _ h)
theorem in_X12_day_X12 : ∀ w ∈ u_ws RX12 TX12 59, w ∈ wsX12_day := fun _ h => List.mem_cons_of_mem _ (List.mem_append_right _ h)
theorem in_X12_quarrel_X12 : ∀ w ∈ u_ws RX12 TX12 59, w ∈ wsX12_quarrel := fun _ h => List.mem_cons_of_mem _ (List.mem_append_right _ h)
theorem in_X11_bars_X11 : ∀ w ∈ u_ws RX11 TX11 15, w ∈ wsX11_bars := fun _ h => List.mem_cons_of_mem _ (List.mem_append_left _ (List.mem_append_right _ h))
theorem in_X12_bars_X12 : ∀ w ∈ u_ws RX12 TX12 59, w ∈ wsX12_bars := fun _ h => List.mem_cons_of_mem _ (List.mem_append_right _ h)
theorem in_X11_without_X11 : ∀ w ∈ u_ws RX11 TX11 15, w ∈ wsX11_without := fun _ h => List.mem_cons_of_mem _ (List.mem_append_left _ (List.mem_append_right _ h))
theorem in_X12_without_X12 : ∀ w ∈ u_ws RX12 TX12 59, w ∈ wsX12_without := fun _ h => List.mem_cons_of_mem _ (List.mem_append_right _ h)
theorem in_X11_pair_X11 : ∀ w ∈ u_ws RX11 TX11 15, w ∈ wsX11_pair := fun _ h => List.mem_cons_of_mem _ (List.mem_append_left _ (List.mem_append_right _ h))
theorem in_X11_pair_X2 : ∀ w ∈ u_ws RX2 TX2 12, w ∈ wsX11_pair := fun _ h => List.mem_cons_of_mem _ (List.mem_append_right _ h)
theorem in_X12_pair_X12 : ∀ w ∈ u_ws RX12 TX12 59, w ∈ wsX12_pair := fun _ h => List.mem_cons_of_mem _ (List.mem_append_right _ h)
theorem in_X11_wealth_X11 : ∀ w ∈ u_ws RX11 TX11 15, w ∈ wsX11_wealth := fun _ h => List.mem_cons_of_mem _ (List.mem_append_left _ (List.mem_append_right _ h))
theorem in_X12_wealth_X12 : ∀ w ∈ u_ws RX12 TX12 59, w ∈ wsX12_wealth := fun _ h => List.mem_cons_of_mem _ (List.mem_append_right _ h)
theorem in_X11_richest_X11 : ∀ w ∈ u_ws RX11 TX11 15, w ∈ wsX11_richest := fun _ h => List.mem_cons_of_mem _ (List.mem_append_left _ (List.mem_append_right _ h))
theorem in_X11_richest_X2 : ∀ w ∈ u_ws RX2 TX2 12, w ∈ wsX11_richest := fun _ h => List.mem_cons_of_mem _ (List.mem_append_right _ h)
theorem in_X12_richest_X12 : ∀ w ∈ u_ws RX12 TX12 59, w ∈ wsX12_richest := fun _ h => List.mem_cons_of_mem _ (List.mem_append_right _ h)
theorem in_X11_use_X11 : ∀ w ∈ u_ws RX11 TX11 15, w ∈ wsX11_use := fun _ h => List.mem_cons_of_mem _ (List.mem_append_left _ (List.mem_append_right _ h))
theorem in_X12_use_X12 : ∀ w ∈ u_ws RX12 TX12 59, w ∈ wsX12_use := fun _ h => List.mem_cons_of_mem _ (List.mem_append_right _ h)
theorem in_X4_forget_X4 : ∀ w ∈ u_ws RX4 TX4 5, w ∈ wsX4_forget := fun _ h => List.mem_cons_of_mem _ (List.mem_append_right _ h)
theorem in_X11_days_X11 : ∀ w ∈ u_ws RX11 TX11 15, w ∈ wsX11_days := fun _ h => List.mem_cons_of_mem _ (List.mem_append_left _ (List.mem_append_left _ (List.mem_append_left _ (List.mem_append_right _ h))))
theorem in_X11_days_X2 : ∀ w ∈ u_ws RX2 TX2 12, w ∈ wsX11_days := fun _ h => List.mem_cons_of_mem _ (List.mem_append_left _ (List.mem_append_left _ (List.mem_append_right _ h)))
theorem in_X12_days_X12 : ∀ w ∈ u_ws RX12 TX12 59, w ∈ wsX12_days := fun _ h => List.mem_cons_of_mem _ (List.mem_append_right _ h)
theorem in_X2_firstBarred_X2 : ∀ w ∈ u_ws RX2 TX2 12, w ∈ wsX2_firstBarred := fun _ h => List.mem_cons_of_mem _ (List.mem_append_right _ h)
theorem in_X2_firstClash_X2 : ∀ w ∈ u_ws RX2 TX2 12, w ∈ wsX2_firstClash := fun _ h => List.mem_cons_of_mem _ (List.mem_append_right _ h)
theorem in_X11_feast_X11 : ∀ w ∈ u_ws RX11 TX11 15, w ∈ wsX11_feast := fun _ h => List.mem_cons_of_mem _ (List.mem_append_left _ (List.mem_append_right _ h))
theorem in_X12_areThings_X12 : ∀ w ∈ u_ws RX12 TX12 59, w ∈ wsX12_areThings := fun _ h => List.mem_cons_of_mem _ (List.mem_append_right _ h)
theorem in_X12_canFeast_X12 : ∀ w ∈ u_ws RX12 TX12 59, w ∈ wsX12_canFeast := fun _ h => List.mem_cons_of_mem _ (List.mem_append_right _ h)
theorem in_X12_feast_X12 : ∀ w ∈ u_ws RX12 TX12 59, w ∈ wsX12_feast := fun _ h => List.mem_cons_of_mem _ (List.mem_append_right _ h)
theorem in_X8_init_X8 : ∀ w ∈ u_ws RX8 TX8 8, w ∈ wsX8_init := fun _ h => List.mem_cons_of_mem _ (List.mem_append_right _ h)
theorem in_X7_init_X7 : ∀ w ∈ u_ws RX7 TX7 9, w ∈ wsX7_init := fun _ h => List.mem_cons_of_mem _ (List.mem_append_left _ (List.mem_append_right _ h))
theorem in_X7_init_X8 : ∀ w ∈ u_ws RX8 TX8 8, w ∈ wsX7_init := fun _ h => List.mem_cons_of_mem _ (List.mem_append_right _ h)
theorem in_X11_searching_X11 : ∀ w ∈ u_ws RX11 TX11 15, w ∈ wsX11_searching := fun _ h => List.mem_cons_of_mem _ (List.mem_append_left _ (List.mem_append_left _ (List.mem_append_right _ h)))
theorem in_X11_searching_X7 : ∀ w ∈ u_ws RX7 TX7 9, w ∈ wsX11_searching := fun _ h => List.mem_cons_of_mem _ (List.mem_append_left _ (List.mem_append_right _ h))
theorem in_X8_clear_X8 : ∀ w ∈ u_ws RX8 TX8 8, w ∈ wsX8_clear := fun _ h => List.mem_cons_of_mem _ (List.mem_append_right _ h)
theorem in_X8_slotOf_X2 : ∀ w ∈ u_ws RX2 TX2 12, w ∈ wsX8_slotOf := fun _ h => List.mem_cons_of_mem _ (List.mem_append_left _ (List.mem_append_right _ h))
theorem in_X8_slotOf_X8 : ∀ w ∈ u_ws RX8 TX8 8, w ∈ wsX8_slotOf := fun _ h => List.mem_cons_of_mem _ (List.mem_append_right _ h)
theorem in_X8_add_X2 : ∀ w ∈ u_ws RX2 TX2 12, w ∈ wsX8_add := fun _ h => List.mem_cons_of_mem _ (List.mem_append_left _ (List.mem_append_right _ h))
theorem in_X8_add_X8 : ∀ w ∈ u_ws RX8 TX8 8, w ∈ wsX8_add := fun _ h => List.mem_cons_of_mem _ (List.mem_append_right _ h)
theorem in_X7_begin_X7 : ∀ w ∈ u_ws RX7 TX7 9, w ∈ wsX7_begin := fun _ h => List.mem_cons_of_mem _ (List.mem_append_left _ (List.mem_append_left _ (List.mem_append_right _ h)))
theorem in_X8_size_X8 : ∀ w ∈ u_ws RX8 TX8 8, w ∈ wsX8_size := fun _ h => List.mem_cons_of_mem _ (List.mem_append_right _ h)
theorem in_X8_isOver_X8 : ∀ w ∈ u_ws RX8 TX8 8, w ∈ wsX8_isOver := fun _ h => List.mem_cons_of_mem _ (List.mem_append_right _ h)
theorem in_X8_load_X2 : ∀ w ∈ u_ws RX2 TX2 12, w ∈ wsX8_load := fun _ h => List.mem_cons_of_mem _ (List.mem_append_left _ (List.mem_append_right _ h))
theorem in_X8_load_X8 : ∀ w ∈ u_ws RX8 TX8 8, w ∈ wsX8_load := fun _ h => List.mem_cons_of_mem _ (List.mem_append_right _ h)
theorem in_X7_addGifts_X7 : ∀ w ∈ u_ws RX7 TX7 9, w ∈ wsX7_addGifts := fun _ h => List.mem_cons_of_mem _ (List.mem_append_left _ (List.mem_append_right _ h))
theorem in_X7_spreadGifts_X7 : ∀ w ∈ u_ws RX7 TX7 9, w ∈ wsX7_spreadGifts := fun _ h => List.mem_cons_of_mem _ (List.mem_append_left _ (List.mem_append_left _ (List.mem_append_right _ h)))
theorem in_X7_firstFeast_X7 : ∀ w ∈ u_ws RX7 TX7 9, w ∈ wsX7_firstFeast := fun _ h => List.mem_cons_of_mem _ (List.mem_append_left _ (List.mem_append_left _ (List.mem_append_right _ h)))
theorem in_X11_prepare_X11 : ∀ w ∈ u_ws RX11 TX11 15, w ∈ wsX11_prepare := fun _ h => List.mem_cons_of_mem _ (List.mem_append_left _ (List.mem_append_left _ (List.mem_append_left _ (List.mem_append_right _ h))))
theorem in_X12_stateNow_X12 : ∀ w ∈ u_ws RX12 TX12 59, w ∈ wsX12_stateNow := fun _ h => List.mem_cons_of_mem _ (List.mem_append_right _ h)
theorem in_X12_clearStates_X12 : ∀ w ∈ u_ws RX12 TX12 59, w ∈ wsX12_clearStates := fun _ h => List.mem_cons_of_mem _ (List.mem_append_right _ h)
theorem in_X12_load_X12 : ∀ w ∈ u_ws RX12 TX12 59, w ∈ wsX12_load := fun _ h => List.mem_cons_of_mem _ (List.mem_append_right _ h)
theorem in_X12_tellWay_X12 : ∀ w ∈ u_ws RX12 TX12 59, w ∈ wsX12_tellWay := fun _ h => List.mem_cons_of_mem _ (List.mem_append_right _ h)
theorem in_X12_prepare_X12 : ∀ w ∈ u_ws RX12 TX12 59, w ∈ wsX12_prepare := fun _ h => List.mem_cons_of_mem _ (List.mem_append_right _ h)
theorem in_X11_areTwoHalves_X11 : ∀ w ∈ u_ws RX11 TX11 15, w ∈ wsX11_areTwoHalves := fun _ h => List.mem_cons_of_mem _ (List.mem_append_left _ (List.mem_append_right _ h))
theorem in_X12_maySwap_X12 : ∀ w ∈ u_ws RX12 TX12 59, w ∈ wsX12_maySwap := fun _ h => List.mem_cons_of_mem _ (List.mem_append_right _ h)
theorem in_X12_swap_X12 : ∀ w ∈ u_ws RX12 TX12 59, w ∈ wsX12_swap := fun _ h => List.mem_cons_of_mem _ (List.mem_append_right _ h)
theorem in_X11_good_X11 : ∀ w ∈ u_ws RX11 TX11 15, w ∈ wsX11_good := fun _ h => List.mem_cons_of_mem _ (List.mem_append_left _ (List.mem_append_right _ h))
theorem in_X12_findGood_X12 : ∀ w ∈ u_ws RX12 TX12 59, w ∈ wsX12_findGood := fun _ h => List.mem_cons_of_mem _ (List.mem_append_right _ h)
theorem in_X12_good_X12 : ∀ w ∈ u_ws RX12 TX12 59, w ∈ wsX12_good := fun _ h => List.mem_cons_of_mem _ (List.mem_append_right _ h)
theorem in_X2_togetherBits_X2 : ∀ w ∈ u_ws RX2 TX2 12, w ∈ wsX2_togetherBits := fun _ h => List.mem_cons_of_mem _ (List.mem_append_right _ h)
theorem in_X11_rests_X11 : ∀ w ∈ u_ws RX11 TX11 15, w ∈ wsX11_rests := fun _ h => List.mem_cons_of_mem _ (List.mem_append_left _ (List.mem_append_right _ h))
theorem in_X12_together_X12 : ∀ w ∈ u_ws RX12 TX12 59, w ∈ wsX12_together := fun _ h => List.mem_cons_of_mem _ (List.mem_append_right _ h)
theorem in_X12_rests_X12 : ∀ w ∈ u_ws RX12 TX12 59, w ∈ wsX12_rests := fun _ h => List.mem_cons_of_mem _ (List.mem_append_right _ h)
theorem in_X7_addSwaps_X7 : ∀ w ∈ u_ws RX7 TX7 9, w ∈ wsX7_addSwaps := fun _ h => List.mem_cons_of_mem _ (List.mem_append_left _ (List.mem_append_right _ h))
theorem in_X7_spreadSwaps_X7 : ∀ w ∈ u_ws RX7 TX7 9, w ∈ wsX7_spreadSwaps := fun _ h => List.mem_cons_of_mem _ (List.mem_append_left _ (List.mem_append_left _ (List.mem_append_right _ h)))
theorem in_X7_firstFriendliest_X7 : ∀ w ∈ u_ws RX7 TX7 9, w ∈ wsX7_firstFriendliest := fun _ h => List.mem_cons_of_mem _ (List.mem_append_left _ (List.mem_append_left _ (List.mem_append_right _ h)))
theorem in_X11_friends_X11 : ∀ w ∈ u_ws RX11 TX11 15, w ∈ wsX11_friends := fun _ h => List.mem_cons_of_mem _ (List.mem_append_left _ (List.mem_append_left _ (List.mem_append_left _ (List.mem_append_right _ h))))
theorem in_X11_friends_X7 : ∀ w ∈ u_ws RX7 TX7 9, w ∈ wsX11_friends := fun _ h => List.mem_cons_of_mem _ (List.mem_append_left _ (List.mem_append_left _ (List.mem_append_right _ h)))
theorem in_X12_findSwaps_X12 : ∀ w ∈ u_ws RX12 TX12 59, w ∈ wsX12_findSwaps := fun _ h => List.mem_cons_of_mem _ (List.mem_append_right _ h)
theorem in_X12_friends_X12 : ∀ w ∈ u_ws RX12 TX12 59, w ∈ wsX12_friends := fun _ h => List.mem_cons_of_mem _ (List.mem_append_right _ h)
theorem in_X7_countResting_X7 : ∀ w ∈ u_ws RX7 TX7 9, w ∈ wsX7_countResting := fun _ h => List.mem_cons_of_mem _ (List.mem_append_left _ (List.mem_append_left _ (List.mem_append_right _ h)))
theorem in_X7_mostOfAny_X7 : ∀ w ∈ u_ws RX7 TX7 9, w ∈ wsX7_mostOfAny := fun _ h => List.mem_cons_of_mem _ (List.mem_append_left _ (List.mem_append_left _ (List.mem_append_left _ (List.mem_append_right _ h))))
theorem in_X7_size_X7 : ∀ w ∈ u_ws RX7 TX7 9, w ∈ wsX7_size := fun _ h => List.mem_cons_of_mem _ (List.mem_append_left _ (List.mem_append_right _ h))
theorem in_X11_states_X11 : ∀ w ∈ u_ws RX11 TX11 15, w ∈ wsX11_states := fun _ h => List.mem_cons_of_mem _ (List.mem_append_left _ (List.mem_append_left _ (List.mem_append_left _ (List.mem_append_left _ (List.mem_append_right _ h)))))
theorem in_X12_states_X12 : ∀ w ∈ u_ws RX12 TX12 59, w ∈ wsX12_states := fun _ h => List.mem_cons_of_mem _ (List.mem_append_right _ h)
theorem in_X11_estate_X11 : ∀ w ∈ u_ws RX11 TX11 15, w ∈ wsX11_estate := fun _ h => List.mem_cons_of_mem _ (List.mem_append_left _ (List.mem_append_right _ h))
theorem in_X12_estate_X12 : ∀ w ∈ u_ws RX12 TX12 59, w ∈ wsX12_estate := fun _ h => List.mem_cons_of_mem _ (List.mem_append_right _ h)
theorem in_X11_greedy_X11 : ∀ w ∈ u_ws RX11 TX11 15, w ∈ wsX11_greedy := fun _ h => List.mem_cons_of_mem _ (List.mem_append_left _ (List.mem_append_right _ h))
theorem in_X12_greedy_X12 : ∀ w ∈ u_ws RX12 TX12 59, w ∈ wsX12_greedy := fun _ h => List.mem_cons_of_mem _ (List.mem_append_right _ h)
theorem in_X11_told_X11 : ∀ w ∈ u_ws RX11 TX11 15, w ∈ wsX11_told := fun _ h => List.mem_cons_of_mem _ (List.mem_append_left _ (List.mem_append_right _ h))
theorem in_X12_told_X12 : ∀ w ∈ u_ws RX12 TX12 59, w ∈ wsX12_told := fun _ h => List.mem_cons_of_mem _ (List.mem_append_right _ h)
theorem in_X11_explains_X11 : ∀ w ∈ u_ws RX11 TX11 15, w ∈ wsX11_explains := fun _ h => List.mem_cons_of_mem _ (List.mem_append_left _ (List.mem_append_right _ h))
theorem in_X12_explains_X12 : ∀ w ∈ u_ws RX12 TX12 59, w ∈ wsX12_explains := fun _ h => List.mem_cons_of_mem _ (List.mem_append_right _ h)
theorem in_X11_steady_X11 : ∀ w ∈ u_ws RX11 TX11 15, w ∈ wsX11_steady := fun _ h => List.mem_cons_of_mem _ (List.mem_append_left _ (List.mem_append_right _ h))
theorem in_X12_steady_X12 : ∀ w ∈ u_ws RX12 TX12 59, w ∈ wsX12_steady := fun _ h => List.mem_cons_of_mem _ (List.mem_append_right _ h)
theorem in_X11_bear_X11 : ∀ w ∈ u_ws RX11 TX11 15, w ∈ wsX11_bear := fun _ h => List.mem_cons_of_mem _ (List.mem_append_left _ (List.mem_append_right _ h))
theorem in_X12_bear_X12 : ∀ w ∈ u_ws RX12 TX12 59, w ∈ wsX12_bear := fun _ h => List.mem_cons_of_mem _ (List.mem_append_right _ h)
theorem in_X11_today_X11 : ∀ w ∈ u_ws RX11 TX11 15, w ∈ wsX11_today := fun _ h => List.mem_cons_of_mem _ (List.mem_append_left _ (List.mem_append_right _ h))
theorem in_X11_today_X2 : ∀ w ∈ u_ws RX2 TX2 12, w ∈ wsX11_today := fun _ h => List.mem_cons_of_mem _ (List.mem_append_right _ h)
theorem in_X12_today_X12 : ∀ w ∈ u_ws RX12 TX12 59, w ∈ wsX12_today := fun _ h => List.mem_cons_of_mem _ (List.mem_append_right _ h)
theorem in_X11_seed_X11 : ∀ w ∈ u_ws RX11 TX11 15, w ∈ wsX11_seed := fun _ h => List.mem_cons_of_mem _ (List.mem_append_left _ (List.mem_append_right _ h))
theorem in_X11_seed_X2 : ∀ w ∈ u_ws RX2 TX2 12, w ∈ wsX11_seed := fun _ h => List.mem_cons_of_mem _ (List.mem_append_right _ h)
theorem in_X12_seed_X12 : ∀ w ∈ u_ws RX12 TX12 59, w ∈ wsX12_seed := fun _ h => List.mem_cons_of_mem _ (List.mem_append_right _ h)
theorem in_X11_keep_X11 : ∀ w ∈ u_ws RX11 TX11 15, w ∈ wsX11_keep := fun _ h => List.mem_cons_of_mem _ (List.mem_append_left _ (List.mem_append_right _ h))
theorem in_X12_keep_X12 : ∀ w ∈ u_ws RX12 TX12 59, w ∈ wsX12_keep := fun _ h => List.mem_cons_of_mem _ (List.mem_append_right _ h)
theorem in_X11_again_X11 : ∀ w ∈ u_ws RX11 TX11 15, w ∈ wsX11_again := fun _ h => List.mem_cons_of_mem _ (List.mem_append_right _ h)
theorem in_X12_again_X12 : ∀ w ∈ u_ws RX12 TX12 59, w ∈ wsX12_again := fun _ h => List.mem_cons_of_mem _ (List.mem_append_right _ h)
theorem in_X4_size_X4 : ∀ w ∈ u_ws RX4 TX4 5, w ∈ wsX4_size := fun _ h => List.mem_cons_of_mem _ (List.mem_append_right _ h)
theorem in_X0_size_X0 : ∀ w ∈ u_ws RX0 TX0 5, w ∈ wsX0_size := fun _ h => List.mem_cons_of_mem _ (List.mem_append_right _ h)
theorem in_X2_coinOfAll_X2 : ∀ w ∈ u_ws RX2 TX2 12, w ∈ wsX2_coinOfAll := fun _ h => List.mem_cons_of_mem _ (List.mem_append_right _ h)
theorem in_X11_count_X11 : ∀ w ∈ u_ws RX11 TX11 15, w ∈ wsX11_count := fun _ h => List.mem_cons_of_mem _ (List.mem_append_left _ (List.mem_append_left _ (List.mem_append_left _ (List.mem_append_left _ (List.mem_append_right _ h)))))
theorem in_X11_count_X2 : ∀ w ∈ u_ws RX2 TX2 12, w ∈ wsX11_count := fun _ h => List.mem_cons_of_mem _ (List.mem_append_left _ (List.mem_append_left _ (List.mem_append_left _ (List.mem_append_right _ h))))
theorem in_X12_count_X12 : ∀ w ∈ u_ws RX12 TX12 59, w ∈ wsX12_count := fun _ h => List.mem_cons_of_mem _ (List.mem_append_right _ h)
theorem in_X12_row_X12 : ∀ w ∈ u_ws RX12 TX12 59, w ∈ wsX12_row := fun _ h => List.mem_cons_of_mem _ (List.mem_append_right _ h)
