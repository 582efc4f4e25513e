
def NX (U : State) : Prop := va_Nw (.castable "java/util/NoSuchElementException" "java/util/NoSuchElementException") U ∧ va_Nw (.declares ⟨"java/lang/RuntimeException", "<init>", "(Ljava/lang/String;)V"⟩) U ∧ va_Nw (.declares ⟨"java/lang/Exception", "<init>", "(Ljava/lang/String;)V"⟩) U ∧ va_Nw (.declares ⟨"java/lang/Throwable", "<init>", "(Ljava/lang/String;)V"⟩) U
theorem NX.warm {s U : State} (hW : s.WarmedH U.vm) (h : NX s) : NX U := ⟨va_Nw.warmC hW h.1, va_Nw.warmD hW h.2.1, va_Nw.warmD hW h.2.2.1, va_Nw.warmD hW h.2.2.2⟩
theorem NX.same {u U : State} (h9 : u.vm = U.vm) (h : NX u) : NX U := ⟨va_Nw.same rfl h9 h.1, va_Nw.same rfl h9 h.2.1, va_Nw.same rfl h9 h.2.2.1, va_Nw.same rfl h9 h.2.2.2⟩
theorem NX.all {A : Array Value} {s : State} (h : NX s) : ∀ w ∈ ([.castable "java/util/NoSuchElementException" "java/util/NoSuchElementException", .declares ⟨"java/lang/RuntimeException", "<init>", "(Ljava/lang/String;)V"⟩, .declares ⟨"java/lang/Exception", "<init>", "(Ljava/lang/String;)V"⟩, .declares ⟨"java/lang/Throwable", "<init>", "(Ljava/lang/String;)V"⟩] : List Cond), w.before A s = true := List.forall_mem_cons.mpr ⟨va_Nw.use rfl h.1, List.forall_mem_cons.mpr ⟨va_Nw.use rfl h.2.1, List.forall_mem_cons.mpr ⟨va_Nw.use rfl h.2.2.1, List.forall_mem_cons.mpr ⟨va_Nw.use rfl h.2.2.2, fun _ h => absurd h List.not_mem_nil⟩⟩⟩⟩
-- what a throw needs of the start: the text, and the two statics of Throwable, which lie apart from the cells
abbrev PX (D : va_G) (tys : List (ClassId × FieldType)) (ws : va_W) (sz : Nat) (k : Nat) (tx : String) (sa : Nat) (U : State) : Prop := PW D tys ws sz U ∧ vk_R RX11 k tx sa U ∧ vx_Zq Bundle.tN "UNASSIGNED_STACK" Bundle.steD (va_A ws sz) U U.heap ∧ vx_Zq Bundle.tN "SUPPRESSED_SENTINEL" Bundle.listD (va_A ws sz) U U.heap ∧ NX U
theorem kx_blind {D : va_G} {tys : List (ClassId × FieldType)} {av : List Value} {ws : va_W} {sz k sa : Nat} {tx : String} : FrameBlind (va_Pc av (PX D tys ws sz k tx sa)) := fun a U g mk q => ⟨q.1, ⟨q.2.1.1, q.2.1.2.1, va_K.moved (u := U) (U := U.calling g mk a) (Vm.Alike.refl U.vm) q.2.1.2.2.1, q.2.1.2.2.2.1, NW.same (u := U) (U := U.calling g mk a) rfl q.2.1.2.2.2.2⟩, vk_R.same (u := U) (U := U.calling g mk a) rfl q.2.2.1, vx_Zq.moved (u := U) (U := U.calling g mk a) (Vm.Alike.refl U.vm) q.2.2.2.1, vx_Zq.moved (u := U) (U := U.calling g mk a) (Vm.Alike.refl U.vm) q.2.2.2.2.1, NX.same (u := U) (U := U.calling g mk a) rfl q.2.2.2.2.2⟩
abbrev XN (ws : va_W) (sz : Nat) : String → State → State → Prop := vx_X (fun _ : Unit => True) (fun E _ _ => E = "java/util/NoSuchElementException") (va_A ws sz)

set_option maxHeartbeats 4000000 in
set_option maxRecDepth 100000 in
/-- OnlyHalves.of on a fresh object: it throws -/
theorem kx_X11_of (l : Launch) (hl9 : l.stackTraces = false) (dC : Nat → ClassId) (dI : Nat → Nat → Nat) (cB cI cJ cZ cM : ClassId) (h0 h1 h2 h3 h4 h5 h6 h7 h8 h9 h10 h11 h12 h13 h14 h15 : Nat) (sz : Nat) (p0 p1 : Int32) (sa : Nat) : vx_Met l yX11_of wsX11_of ({ frames := 7, cells := 1, slots := 6, locals := 400 }) (va_Pc [.ref h0, .int p0, .int p1] (PX (dC, dI) (TY cB cI cJ cZ cM) [(h0, .inr (11, [.ref h2, .ref h1, .ref h3, .ref h4, .ref h5, .ref h6, .ref h7, .ref h8, .ref h9, .ref h10, .ref h11, .ref h12, .ref h13, .int 0, .null])), (h1, .inr (2, [.ref h14, .ref h15, .int 0, .int 0, .long 0, .long 0, .long 0, .long 0, .long 0, .int 0, .int 0, .int 1]))] sz 117 "no such person" sa)) (va_Qi (fun (_ : Int32) (_ : va_W) => False) (BW (dC, dI) (va_A [(h0, .inr (11, [.ref h2, .ref h1, .ref h3, .ref h4, .ref h5, .ref h6, .ref h7, .ref h8, .ref h9, .ref h10, .ref h11, .ref h12, .ref h13, .int 0, .null])), (h1, .inr (2, [.ref h14, .ref h15, .int 0, .int 0, .long 0, .long 0, .long 0, .long 0, .long 0, .int 0, .int 0, .int 1]))] sz)) (va_A [(h0, .inr (11, [.ref h2, .ref h1, .ref h3, .ref h4, .ref h5, .ref h6, .ref h7, .ref h8, .ref h9, .ref h10, .ref h11, .ref h12, .ref h13, .int 0, .null])), (h1, .inr (2, [.ref h14, .ref h15, .int 0, .int 0, .long 0, .long 0, .long 0, .long 0, .long 0, .int 0, .int 0, .int 1]))] sz)) (vx_X (fun _ : Unit => True) (fun E _ _ => E = "java/util/NoSuchElementException") (va_A [(h0, .inr (11, [.ref h2, .ref h1, .ref h3, .ref h4, .ref h5, .ref h6, .ref h7, .ref h8, .ref h9, .ref h10, .ref h11, .ref h12, .ref h13, .int 0, .null])), (h1, .inr (2, [.ref h14, .ref h15, .int 0, .int 0, .long 0, .long 0, .long 0, .long 0, .long 0, .int 0, .int 0, .int 1]))] sz)) 1 6 (va_A [(h0, .inr (11, [.ref h2, .ref h1, .ref h3, .ref h4, .ref h5, .ref h6, .ref h7, .ref h8, .ref h9, .ref h10, .ref h11, .ref h12, .ref h13, .int 0, .null])), (h1, .inr (2, [.ref h14, .ref h15, .int 0, .int 0, .long 0, .long 0, .long 0, .long 0, .long 0, .int 0, .int 0, .int 1]))] sz) := by
  refine vx_ofW (cc := cX11_of) (maxL := 3) (ret := (some .int)) (by decide) rfl ?_
  intro p e s m args below meth c s₁ B hml hnt hv
  obtain ⟨rfl, ⟨hsz, hP, hK, hD0, hO⟩, hstr, hU, hN, hcst⟩ := hv
  have hx := B.exec
  have hb := B.bytes
  have hr := B.returns
  have hts := atoms_spec (ws := wsX11_of) B.pre
  have hown : s.vm.findClass RX11 = some m.cls := findClass_of_methodNamed B.named
  have hlocks := B.notSynchronized
  subst hsz
  have hD := hD0.self (sz := s.heap.size)
  generalize hAe : va_A [(h0, .inr (11, [.ref h2, .ref h1, .ref h3, .ref h4, .ref h5, .ref h6, .ref h7, .ref h8, .ref h9, .ref h10, .ref h11, .ref h12, .ref h13, .int 0, .null])), (h1, .inr (2, [.ref h14, .ref h15, .int 0, .int 0, .long 0, .long 0, .long 0, .long 0, .long 0, .int 0, .int 0, .int 1]))] s.heap.size = A at hD hU hN ⊢
  have hA : ∀ q : Nat, s.heap.size ≤ q → A q := fun q h => by rw [← hAe]; exact Or.inr h
  have hS : va_S A s.heap s.heap [] := va_S.rf
  have hP : va_P (dC, dI) vwCl [(h0, .inr (11, [.ref h2, .ref h1, .ref h3, .ref h4, .ref h5, .ref h6, .ref h7, .ref h8, .ref h9, .ref h10, .ref h11, .ref h12, .ref h13, .int 0, .null])), (h1, .inr (2, [.ref h14, .ref h15, .int 0, .int 0, .long 0, .long 0, .long 0, .long 0, .long 0, .int 0, .int 0, .int 1]))] s.heap := hP
  have hat : ∀ w ∈ kt_at RX11 119 "java/util/NoSuchElementException" "java/lang/RuntimeException" 13 prog_23_method_4_code ["java/lang/Exception"], w.before #[Value.ref h0, Value.int p0, Value.int p1] s = true := vx_hat (fun w h => hts w (List.mem_cons_of_mem _ (List.mem_append_right _ h))) (by decide +kernel) (NX.all hcst)
  have hgood : ∀ w ∈ Cond.classLink RX11 115 "java/util/NoSuchElementException" :: Cond.initialized "java/util/NoSuchElementException" :: kt_at RX11 119 "java/util/NoSuchElementException" "java/lang/RuntimeException" 13 prog_23_method_4_code ["java/lang/Exception"], vx_ot w = true := by decide +kernel
  have hl := lv_entry ([.ref h0, .int p0, .int p1]) (n := 3) (Nat.le_of_ble_eq_true rfl)
  rw [lg_entry_eq]
  generalize (lg_sl ([.ref h0, .int p0, .int p1]) ++ List.replicate (3 - (lg_sl ([.ref h0, .int p0, .int p1])).length) Slot.unset).toArray = ls at hl ⊢
  have hl : lv_has ls 3 [(0, .ref h0), (1, .int p0), (2, .int p1)] := hl
  refine w_gen hP hS (fun H locs hP hS => ?_)
  refine lv_aload_n hx hb dX11_of_0 rfl (lv_at hl 0 rfl) ?_
  refine va_get (D := (dC, dI)) (tys := TY cB cI cJ cZ cM) (ci := 11) (v := .ref h1) (C := RX11) (T := TX11) (N := 15) hx hb hts in_X11_of_X11 hown hK hP 0 rfl rfl 1 (by decide) (hts (.fieldLink RX11 21 "OnlyHalves" "market" "LOnlyHalves$Market;") (by decide +kernel)) (fun _ h9 => h9) rfl dX11_of_1 ?_
  refine lv_iload_n hx hb dX11_of_4 rfl (lv_at hl 1 rfl) ?_
  refine k_iV (As := [.int p0]) (rest := []) (wr := [(h0, .inr (11, [.ref h2, .ref h1, .ref h3, .ref h4, .ref h5, .ref h6, .ref h7, .ref h8, .ref h9, .ref h10, .ref h11, .ref h12, .ref h13, .int 0, .null]))]) ⟨hx, hb, hml, hown, hts⟩ (k_X2_hasPerson l dC dI cB cI cJ cZ cM h1 h14 h15 H.size p0) (cwV 1 hts gX11_of_X2_hasPerson rfl rfl rfl (by decide +kernel) ⟨Nat.le_of_ble_eq_true rfl, Nat.le_of_ble_eq_true rfl⟩) hK hO hP hD hS hA [1] [0] rfl rfl rfl (by decide) (by decide) (by decide) 2 0 rfl rfl rfl hl.1 rfl (Nat.le_of_ble_eq_true rfl) dX11_of_5 ⟨Nat.le_of_ble_eq_true rfl, Nat.le_of_ble_eq_true rfl⟩ (fun r_1 u_3 H locs hw_4 hP hD hS => ?_)
  rcases hw_4 with ⟨rfl, rfl⟩
  have hP : va_P (dC, dI) vwCl [(h0, .inr (11, [.ref h2, .ref h1, .ref h3, .ref h4, .ref h5, .ref h6, .ref h7, .ref h8, .ref h9, .ref h10, .ref h11, .ref h12, .ref h13, .int 0, .null])), (h1, .inr (2, [.ref h14, .ref h15, .int 0, .int 0, .long 0, .long 0, .long 0, .long 0, .long 0, .int 0, .int 0, .int 1]))] H := hP
  have hD : va_D A [(h0, .inr (11, [.ref h2, .ref h1, .ref h3, .ref h4, .ref h5, .ref h6, .ref h7, .ref h8, .ref h9, .ref h10, .ref h11, .ref h12, .ref h13, .int 0, .null])), (h1, .inr (2, [.ref h14, .ref h15, .int 0, .int 0, .long 0, .long 0, .long 0, .long 0, .long 0, .int 0, .int 0, .int 1]))] := hD
  refine lv_if_ne (tgt := 21) hx hb dX11_of_8 (by decide) (fun c_5 => absurd c_5 (by decide)) (fun c_5 => ?_)
  exact kt_throwS (own := RX11) (cls := "java/util/NoSuchElementException") (sup := "java/lang/RuntimeException") (text := "no such person") (names := ["java/lang/Exception"]) (ix := 13) (rx := prog_23_method_4_code) (ik := 115) (is := 117) (ic := 119) (sa := sa) (A := A) (x0 := by decide +kernel) (x1 := by decide +kernel) (x2 := by decide +kernel) (x5 := by decide +kernel) hx hb hl9 hown (by decide) (by decide) (by decide) (hts (.classLink RX11 115 "java/util/NoSuchElementException") (by decide +kernel)) (hts (.initialized "java/util/NoSuchElementException") (by decide +kernel)) hstr hat hgood hU hN hS (hl.1.trans hml.symm) dX11_of_11 dX11_of_14 dX11_of_15 dX11_of_17 dX11_of_20 (fun z hz => absurd hz (hnt z)) (Nat.le_of_ble_eq_true rfl) (Nat.le_of_ble_eq_true rfl) (Nat.le_of_ble_eq_true rfl) (Nat.le_of_ble_eq_true rfl) hlocks (fun t hv h1 h2 => ⟨(), trivial, rfl, Nat.le_trans hS.1 h1, fun q hq hn => (h2 q (Nat.lt_of_lt_of_le hq hS.1)).trans (hS.2.1 q hq hn)⟩) hS.2.2 (Nat.le_of_ble_eq_true rfl) (Nat.le_of_ble_eq_true rfl)
set_option maxHeartbeats 4000000 in
set_option maxRecDepth 100000 in
/-- the law's helper of: on a fresh object it answers 1 -/
theorem kh_L_of (l : Launch) (hl9 : l.stackTraces = false) (dC : Nat → ClassId) (dI : Nat → Nat → Nat) (cB cI cJ cZ cM : ClassId) (h0 h1 h2 h3 h4 h5 h6 h7 h8 h9 h10 h11 h12 h13 h14 h15 o0 : Nat) (sz : Nat) (p0 p1 : Int32) (sa : Nat) : Met l yL_of wsL_of ({ frames := 9, cells := 1, slots := 6, locals := 600 }) (va_Pc [.ref h0, .int p0, .int p1, .ref o0] (PX (dC, dI) (TY cB cI cJ cZ cM) [(h0, .inr (11, [.ref h2, .ref h1, .ref h3, .ref h4, .ref h5, .ref h6, .ref h7, .ref h8, .ref h9, .ref h10, .ref h11, .ref h12, .ref h13, .int 0, .null])), (h1, .inr (2, [.ref h14, .ref h15, .int 0, .int 0, .long 0, .long 0, .long 0, .long 0, .long 0, .int 0, .int 0, .int 1]))] sz 117 "no such person" sa)) (QI (dC, dI) (fun r _ => r = 1) [(h0, .inr (11, [.ref h2, .ref h1, .ref h3, .ref h4, .ref h5, .ref h6, .ref h7, .ref h8, .ref h9, .ref h10, .ref h11, .ref h12, .ref h13, .int 0, .null])), (h1, .inr (2, [.ref h14, .ref h15, .int 0, .int 0, .long 0, .long 0, .long 0, .long 0, .long 0, .int 0, .int 0, .int 1]))] sz) 1 6 (va_A [(h0, .inr (11, [.ref h2, .ref h1, .ref h3, .ref h4, .ref h5, .ref h6, .ref h7, .ref h8, .ref h9, .ref h10, .ref h11, .ref h12, .ref h13, .int 0, .null])), (h1, .inr (2, [.ref h14, .ref h15, .int 0, .int 0, .long 0, .long 0, .long 0, .long 0, .long 0, .int 0, .int 0, .int 1]))] sz) := by
  refine va_MetW (cc := cL_of) (maxL := 5) (ret := (some .int)) (hh := [(0, 10, 13, 13)]) (by decide) rfl ?_
  intro p e s m args below meth c s₁ B hml hv
  obtain ⟨rfl, ⟨hsz, hP, hK, hD0, hO⟩, hstr, hU0, hN0, hcst⟩ := hv
  have hx := B.exec
  have hb := B.bytes
  have hr := B.returns
  have hts := atoms_spec (ws := wsL_of) B.pre
  have hown : s.vm.findClass RL = some m.cls := findClass_of_methodNamed B.named
  have hlocks := B.notSynchronized
  have htab := vx_table (x := yL_of) B (hts _ List.mem_cons_self)

  subst hsz
  have hD := hD0.self (sz := s.heap.size)
  have hS : va_S (va_A [(h0, .inr (11, [.ref h2, .ref h1, .ref h3, .ref h4, .ref h5, .ref h6, .ref h7, .ref h8, .ref h9, .ref h10, .ref h11, .ref h12, .ref h13, .int 0, .null])), (h1, .inr (2, [.ref h14, .ref h15, .int 0, .int 0, .long 0, .long 0, .long 0, .long 0, .long 0, .int 0, .int 0, .int 1]))] s.heap.size) s.heap s.heap [] := va_S.rf
  have hl := lv_entry ([.ref h0, .int p0, .int p1, .ref o0]) (n := 5) (Nat.le_of_ble_eq_true rfl)
  rw [lg_entry_eq]
  generalize (lg_sl ([.ref h0, .int p0, .int p1, .ref o0]) ++ List.replicate (5 - (lg_sl ([.ref h0, .int p0, .int p1, .ref o0])).length) Slot.unset).toArray = ls at hl ⊢
  have hl : lv_has ls 5 [(0, .ref h0), (1, .int p0), (2, .int p1), (3, .ref o0)] := hl
  refine lv_aload_n hx hb dL_of_0 rfl (lv_at hl 3 rfl) ?_
  refine lv_iconst (v := 0) hx hb dL_of_1 (by decide) ?_
  refine lv_aload_n hx hb dL_of_2 rfl (lv_at hl 0 rfl) ?_
  refine lv_iload_n hx hb dL_of_3 rfl (lv_at hl 1 rfl) ?_
  refine lv_iload_n hx hb dL_of_4 rfl (lv_at hl 2 rfl) ?_
  refine vx_calli (vx_runV (As := [.int p0, .int p1]) (rest := [.int 0, .ref o0]) ⟨hx, hb, hml, hown, hts⟩ (kx_X11_of l hl9 dC dI cB cI cJ cZ cM h0 h1 h2 h3 h4 h5 h6 h7 h8 h9 h10 h11 h12 h13 h14 h15 s.heap.size p0 p1 sa) (cwV 2 hts gL_of_X11_of rfl rfl rfl (by decide +kernel) ⟨Nat.le_of_ble_eq_true rfl, Nat.le_of_ble_eq_true rfl⟩) ⟨kx_blind, va_recv hK hP (ci := 11) (q0 := 0) rfl rfl, fun U hU hW => ⟨rfl, ⟨by rw [hU], by rw [hU]; exact hP, va_K.moved hW.alike hK, hD.weaken (fun _ _ _ _ => trivial), NW.warm hW hO⟩, vk_R.warm hW hstr, by rw [hU]; exact vx_Zq.moved hW.alike hU0, by rw [hU]; exact vx_Zq.moved hW.alike hN0, NX.warm hW hcst⟩⟩ rfl rfl hl.1 rfl (lv_room (Nat.le_of_ble_eq_true rfl)) dL_of_5 ⟨Nat.le_of_ble_eq_true rfl, Nat.le_of_ble_eq_true rfl⟩) hS (fun q _ h => h) (fun q h => h) (fun q _ h => h) (fun E ce q9 u t H1 locs1 ht hvm hpx hBX hz hk1 hS1 hce hcv hcl => ?_) (fun r u t H1 locs1 ht hvm hw hB hz1 hk1 hS1 => hw.elim)
  have hBX : E = "java/util/NoSuchElementException" := hBX
  subst hBX
  refine vx_catch (own := RL) (name := "java/util/NoSuchElementException") hown [] ⟨0, 10, 13, 13⟩ [] htab (fun z hz => absurd hz List.not_mem_nil) (by decide) (by decide) (hts (.classLink RL 13 "java/util/NoSuchElementException") (by decide +kernel)) (va_Nw.use rfl hcst.1) hce hcv hcl ?_
  refine W.eq (g2 := F0 m 13 ls [.ref q9]) rfl ?_
  refine lv_astore (lv' := [(4, .ref q9), (0, .ref h0), (1, .int p0), (2, .int p1), (3, .ref o0)]) hx hb dL_of_13 hl (by decide) rfl (fun ls hl => ?_)
  refine lv_iconst (v := 1) hx hb dL_of_15 (by decide) ?_
  refine W.widen (k := 1) (n := 6) (by omega) (by omega) ?_
  exact W.iret (v := 1) hx hb hr (fun t ht hW => ⟨⟨1, [], rfl, rfl, (fun k q h => by simp at h), ⟨fun i j p q h => by simp at h, fun k q h => by simp at h⟩⟩, hS1.F ht⟩) hS1.2.2 dL_of_16
set_option maxHeartbeats 4000000 in
set_option maxRecDepth 100000 in
/-- OnlyHalves.thing on a fresh object: it throws -/
theorem kx_X11_thing (l : Launch) (hl9 : l.stackTraces = false) (dC : Nat → ClassId) (dI : Nat → Nat → Nat) (cB cI cJ cZ cM : ClassId) (h0 h1 h2 h3 h4 h5 h6 h7 h8 h9 h10 h11 h12 h13 h14 h15 : Nat) (sz : Nat) (p0 p1 : Int32) (sa : Nat) : vx_Met l yX11_thing wsX11_thing ({ frames := 7, cells := 1, slots := 6, locals := 400 }) (va_Pc [.ref h0, .int p0, .int p1] (PX (dC, dI) (TY cB cI cJ cZ cM) [(h0, .inr (11, [.ref h2, .ref h1, .ref h3, .ref h4, .ref h5, .ref h6, .ref h7, .ref h8, .ref h9, .ref h10, .ref h11, .ref h12, .ref h13, .int 0, .null])), (h1, .inr (2, [.ref h14, .ref h15, .int 0, .int 0, .long 0, .long 0, .long 0, .long 0, .long 0, .int 0, .int 0, .int 1]))] sz 144 "no such thing" sa)) (va_Qi (fun (_ : Int32) (_ : va_W) => False) (BW (dC, dI) (va_A [(h0, .inr (11, [.ref h2, .ref h1, .ref h3, .ref h4, .ref h5, .ref h6, .ref h7, .ref h8, .ref h9, .ref h10, .ref h11, .ref h12, .ref h13, .int 0, .null])), (h1, .inr (2, [.ref h14, .ref h15, .int 0, .int 0, .long 0, .long 0, .long 0, .long 0, .long 0, .int 0, .int 0, .int 1]))] sz)) (va_A [(h0, .inr (11, [.ref h2, .ref h1, .ref h3, .ref h4, .ref h5, .ref h6, .ref h7, .ref h8, .ref h9, .ref h10, .ref h11, .ref h12, .ref h13, .int 0, .null])), (h1, .inr (2, [.ref h14, .ref h15, .int 0, .int 0, .long 0, .long 0, .long 0, .long 0, .long 0, .int 0, .int 0, .int 1]))] sz)) (vx_X (fun _ : Unit => True) (fun E _ _ => E = "java/util/NoSuchElementException") (va_A [(h0, .inr (11, [.ref h2, .ref h1, .ref h3, .ref h4, .ref h5, .ref h6, .ref h7, .ref h8, .ref h9, .ref h10, .ref h11, .ref h12, .ref h13, .int 0, .null])), (h1, .inr (2, [.ref h14, .ref h15, .int 0, .int 0, .long 0, .long 0, .long 0, .long 0, .long 0, .int 0, .int 0, .int 1]))] sz)) 1 6 (va_A [(h0, .inr (11, [.ref h2, .ref h1, .ref h3, .ref h4, .ref h5, .ref h6, .ref h7, .ref h8, .ref h9, .ref h10, .ref h11, .ref h12, .ref h13, .int 0, .null])), (h1, .inr (2, [.ref h14, .ref h15, .int 0, .int 0, .long 0, .long 0, .long 0, .long 0, .long 0, .int 0, .int 0, .int 1]))] sz) := by
  refine vx_ofW (cc := cX11_thing) (maxL := 3) (ret := (some .int)) (by decide) rfl ?_
  intro p e s m args below meth c s₁ B hml hnt hv
  obtain ⟨rfl, ⟨hsz, hP, hK, hD0, hO⟩, hstr, hU, hN, hcst⟩ := hv
  have hx := B.exec
  have hb := B.bytes
  have hr := B.returns
  have hts := atoms_spec (ws := wsX11_thing) B.pre
  have hown : s.vm.findClass RX11 = some m.cls := findClass_of_methodNamed B.named
  have hlocks := B.notSynchronized
  subst hsz
  have hD := hD0.self (sz := s.heap.size)
  generalize hAe : va_A [(h0, .inr (11, [.ref h2, .ref h1, .ref h3, .ref h4, .ref h5, .ref h6, .ref h7, .ref h8, .ref h9, .ref h10, .ref h11, .ref h12, .ref h13, .int 0, .null])), (h1, .inr (2, [.ref h14, .ref h15, .int 0, .int 0, .long 0, .long 0, .long 0, .long 0, .long 0, .int 0, .int 0, .int 1]))] s.heap.size = A at hD hU hN ⊢
  have hA : ∀ q : Nat, s.heap.size ≤ q → A q := fun q h => by rw [← hAe]; exact Or.inr h
  have hS : va_S A s.heap s.heap [] := va_S.rf
  have hP : va_P (dC, dI) vwCl [(h0, .inr (11, [.ref h2, .ref h1, .ref h3, .ref h4, .ref h5, .ref h6, .ref h7, .ref h8, .ref h9, .ref h10, .ref h11, .ref h12, .ref h13, .int 0, .null])), (h1, .inr (2, [.ref h14, .ref h15, .int 0, .int 0, .long 0, .long 0, .long 0, .long 0, .long 0, .int 0, .int 0, .int 1]))] s.heap := hP
  have hat : ∀ w ∈ kt_at RX11 119 "java/util/NoSuchElementException" "java/lang/RuntimeException" 13 prog_23_method_4_code ["java/lang/Exception"], w.before #[Value.ref h0, Value.int p0, Value.int p1] s = true := vx_hat (fun w h => hts w (List.mem_cons_of_mem _ (List.mem_append_right _ h))) (by decide +kernel) (NX.all hcst)
  have hgood : ∀ w ∈ Cond.classLink RX11 115 "java/util/NoSuchElementException" :: Cond.initialized "java/util/NoSuchElementException" :: kt_at RX11 119 "java/util/NoSuchElementException" "java/lang/RuntimeException" 13 prog_23_method_4_code ["java/lang/Exception"], vx_ot w = true := by decide +kernel
  have hl := lv_entry ([.ref h0, .int p0, .int p1]) (n := 3) (Nat.le_of_ble_eq_true rfl)
  rw [lg_entry_eq]
  generalize (lg_sl ([.ref h0, .int p0, .int p1]) ++ List.replicate (3 - (lg_sl ([.ref h0, .int p0, .int p1])).length) Slot.unset).toArray = ls at hl ⊢
  have hl : lv_has ls 3 [(0, .ref h0), (1, .int p0), (2, .int p1)] := hl
  refine w_gen hP hS (fun H locs hP hS => ?_)
  refine lv_aload_n hx hb dX11_thing_0 rfl (lv_at hl 0 rfl) ?_
  refine va_get (D := (dC, dI)) (tys := TY cB cI cJ cZ cM) (ci := 11) (v := .ref h1) (C := RX11) (T := TX11) (N := 15) hx hb hts in_X11_thing_X11 hown hK hP 0 rfl rfl 1 (by decide) (hts (.fieldLink RX11 21 "OnlyHalves" "market" "LOnlyHalves$Market;") (by decide +kernel)) (fun _ h9 => h9) rfl dX11_thing_1 ?_
  refine lv_iload_n hx hb dX11_thing_4 rfl (lv_at hl 1 rfl) ?_
  refine k_iV (As := [.int p0]) (rest := []) (wr := [(h0, .inr (11, [.ref h2, .ref h1, .ref h3, .ref h4, .ref h5, .ref h6, .ref h7, .ref h8, .ref h9, .ref h10, .ref h11, .ref h12, .ref h13, .int 0, .null]))]) ⟨hx, hb, hml, hown, hts⟩ (k_X2_hasThing l dC dI cB cI cJ cZ cM h1 h14 h15 H.size p0) (cwV 1 hts gX11_thing_X2_hasThing rfl rfl rfl (by decide +kernel) ⟨Nat.le_of_ble_eq_true rfl, Nat.le_of_ble_eq_true rfl⟩) hK hO hP hD hS hA [1] [0] rfl rfl rfl (by decide) (by decide) (by decide) 2 0 rfl rfl rfl hl.1 rfl (Nat.le_of_ble_eq_true rfl) dX11_thing_5 ⟨Nat.le_of_ble_eq_true rfl, Nat.le_of_ble_eq_true rfl⟩ (fun r_1 u_3 H locs hw_4 hP hD hS => ?_)
  rcases hw_4 with ⟨rfl, rfl⟩
  have hP : va_P (dC, dI) vwCl [(h0, .inr (11, [.ref h2, .ref h1, .ref h3, .ref h4, .ref h5, .ref h6, .ref h7, .ref h8, .ref h9, .ref h10, .ref h11, .ref h12, .ref h13, .int 0, .null])), (h1, .inr (2, [.ref h14, .ref h15, .int 0, .int 0, .long 0, .long 0, .long 0, .long 0, .long 0, .int 0, .int 0, .int 1]))] H := hP
  have hD : va_D A [(h0, .inr (11, [.ref h2, .ref h1, .ref h3, .ref h4, .ref h5, .ref h6, .ref h7, .ref h8, .ref h9, .ref h10, .ref h11, .ref h12, .ref h13, .int 0, .null])), (h1, .inr (2, [.ref h14, .ref h15, .int 0, .int 0, .long 0, .long 0, .long 0, .long 0, .long 0, .int 0, .int 0, .int 1]))] := hD
  refine lv_if_ne (tgt := 21) hx hb dX11_thing_8 (by decide) (fun c_5 => absurd c_5 (by decide)) (fun c_5 => ?_)
  exact kt_throwS (own := RX11) (cls := "java/util/NoSuchElementException") (sup := "java/lang/RuntimeException") (text := "no such thing") (names := ["java/lang/Exception"]) (ix := 13) (rx := prog_23_method_4_code) (ik := 115) (is := 144) (ic := 119) (sa := sa) (A := A) (x0 := by decide +kernel) (x1 := by decide +kernel) (x2 := by decide +kernel) (x5 := by decide +kernel) hx hb hl9 hown (by decide) (by decide) (by decide) (hts (.classLink RX11 115 "java/util/NoSuchElementException") (by decide +kernel)) (hts (.initialized "java/util/NoSuchElementException") (by decide +kernel)) hstr hat hgood hU hN hS (hl.1.trans hml.symm) dX11_thing_11 dX11_thing_14 dX11_thing_15 dX11_thing_17 dX11_thing_20 (fun z hz => absurd hz (hnt z)) (Nat.le_of_ble_eq_true rfl) (Nat.le_of_ble_eq_true rfl) (Nat.le_of_ble_eq_true rfl) (Nat.le_of_ble_eq_true rfl) hlocks (fun t hv h1 h2 => ⟨(), trivial, rfl, Nat.le_trans hS.1 h1, fun q hq hn => (h2 q (Nat.lt_of_lt_of_le hq hS.1)).trans (hS.2.1 q hq hn)⟩) hS.2.2 (Nat.le_of_ble_eq_true rfl) (Nat.le_of_ble_eq_true rfl)
set_option maxHeartbeats 4000000 in
set_option maxRecDepth 100000 in
/-- the law's helper thing: on a fresh object it answers 1 -/
theorem kh_L_thing (l : Launch) (hl9 : l.stackTraces = false) (dC : Nat → ClassId) (dI : Nat → Nat → Nat) (cB cI cJ cZ cM : ClassId) (h0 h1 h2 h3 h4 h5 h6 h7 h8 h9 h10 h11 h12 h13 h14 h15 o0 : Nat) (sz : Nat) (p0 p1 : Int32) (sa : Nat) : Met l yL_thing wsL_thing ({ frames := 9, cells := 1, slots := 6, locals := 600 }) (va_Pc [.ref h0, .int p0, .int p1, .ref o0] (PX (dC, dI) (TY cB cI cJ cZ cM) [(h0, .inr (11, [.ref h2, .ref h1, .ref h3, .ref h4, .ref h5, .ref h6, .ref h7, .ref h8, .ref h9, .ref h10, .ref h11, .ref h12, .ref h13, .int 0, .null])), (h1, .inr (2, [.ref h14, .ref h15, .int 0, .int 0, .long 0, .long 0, .long 0, .long 0, .long 0, .int 0, .int 0, .int 1]))] sz 144 "no such thing" sa)) (QI (dC, dI) (fun r _ => r = 1) [(h0, .inr (11, [.ref h2, .ref h1, .ref h3, .ref h4, .ref h5, .ref h6, .ref h7, .ref h8, .ref h9, .ref h10, .ref h11, .ref h12, .ref h13, .int 0, .null])), (h1, .inr (2, [.ref h14, .ref h15, .int 0, .int 0, .long 0, .long 0, .long 0, .long 0, .long 0, .int 0, .int 0, .int 1]))] sz) 1 6 (va_A [(h0, .inr (11, [.ref h2, .ref h1, .ref h3, .ref h4, .ref h5, .ref h6, .ref h7, .ref h8, .ref h9, .ref h10, .ref h11, .ref h12, .ref h13, .int 0, .null])), (h1, .inr (2, [.ref h14, .ref h15, .int 0, .int 0, .long 0, .long 0, .long 0, .long 0, .long 0, .int 0, .int 0, .int 1]))] sz) := by
  refine va_MetW (cc := cL_thing) (maxL := 5) (ret := (some .int)) (hh := [(0, 10, 13, 13)]) (by decide) rfl ?_
  intro p e s m args below meth c s₁ B hml hv
  obtain ⟨rfl, ⟨hsz, hP, hK, hD0, hO⟩, hstr, hU0, hN0, hcst⟩ := hv
  have hx := B.exec
  have hb := B.bytes
  have hr := B.returns
  have hts := atoms_spec (ws := wsL_thing) B.pre
  have hown : s.vm.findClass RL = some m.cls := findClass_of_methodNamed B.named
  have hlocks := B.notSynchronized
  have htab := vx_table (x := yL_thing) B (hts _ List.mem_cons_self)

  subst hsz
  have hD := hD0.self (sz := s.heap.size)
  have hS : va_S (va_A [(h0, .inr (11, [.ref h2, .ref h1, .ref h3, .ref h4, .ref h5, .ref h6, .ref h7, .ref h8, .ref h9, .ref h10, .ref h11, .ref h12, .ref h13, .int 0, .null])), (h1, .inr (2, [.ref h14, .ref h15, .int 0, .int 0, .long 0, .long 0, .long 0, .long 0, .long 0, .int 0, .int 0, .int 1]))] s.heap.size) s.heap s.heap [] := va_S.rf
  have hl := lv_entry ([.ref h0, .int p0, .int p1, .ref o0]) (n := 5) (Nat.le_of_ble_eq_true rfl)
  rw [lg_entry_eq]
  generalize (lg_sl ([.ref h0, .int p0, .int p1, .ref o0]) ++ List.replicate (5 - (lg_sl ([.ref h0, .int p0, .int p1, .ref o0])).length) Slot.unset).toArray = ls at hl ⊢
  have hl : lv_has ls 5 [(0, .ref h0), (1, .int p0), (2, .int p1), (3, .ref o0)] := hl
  refine lv_aload_n hx hb dL_thing_0 rfl (lv_at hl 3 rfl) ?_
  refine lv_iconst (v := 0) hx hb dL_thing_1 (by decide) ?_
  refine lv_aload_n hx hb dL_thing_2 rfl (lv_at hl 0 rfl) ?_
  refine lv_iload_n hx hb dL_thing_3 rfl (lv_at hl 1 rfl) ?_
  refine lv_iload_n hx hb dL_thing_4 rfl (lv_at hl 2 rfl) ?_
  refine vx_calli (vx_runV (As := [.int p0, .int p1]) (rest := [.int 0, .ref o0]) ⟨hx, hb, hml, hown, hts⟩ (kx_X11_thing l hl9 dC dI cB cI cJ cZ cM h0 h1 h2 h3 h4 h5 h6 h7 h8 h9 h10 h11 h12 h13 h14 h15 s.heap.size p0 p1 sa) (cwV 2 hts gL_thing_X11_thing rfl rfl rfl (by decide +kernel) ⟨Nat.le_of_ble_eq_true rfl, Nat.le_of_ble_eq_true rfl⟩) ⟨kx_blind, va_recv hK hP (ci := 11) (q0 := 0) rfl rfl, fun U hU hW => ⟨rfl, ⟨by rw [hU], by rw [hU]; exact hP, va_K.moved hW.alike hK, hD.weaken (fun _ _ _ _ => trivial), NW.warm hW hO⟩, vk_R.warm hW hstr, by rw [hU]; exact vx_Zq.moved hW.alike hU0, by rw [hU]; exact vx_Zq.moved hW.alike hN0, NX.warm hW hcst⟩⟩ rfl rfl hl.1 rfl (lv_room (Nat.le_of_ble_eq_true rfl)) dL_thing_5 ⟨Nat.le_of_ble_eq_true rfl, Nat.le_of_ble_eq_true rfl⟩) hS (fun q _ h => h) (fun q h => h) (fun q _ h => h) (fun E ce q9 u t H1 locs1 ht hvm hpx hBX hz hk1 hS1 hce hcv hcl => ?_) (fun r u t H1 locs1 ht hvm hw hB hz1 hk1 hS1 => hw.elim)
  have hBX : E = "java/util/NoSuchElementException" := hBX
  subst hBX
  refine vx_catch (own := RL) (name := "java/util/NoSuchElementException") hown [] ⟨0, 10, 13, 13⟩ [] htab (fun z hz => absurd hz List.not_mem_nil) (by decide) (by decide) (hts (.classLink RL 13 "java/util/NoSuchElementException") (by decide +kernel)) (va_Nw.use rfl hcst.1) hce hcv hcl ?_
  refine W.eq (g2 := F0 m 13 ls [.ref q9]) rfl ?_
  refine lv_astore (lv' := [(4, .ref q9), (0, .ref h0), (1, .int p0), (2, .int p1), (3, .ref o0)]) hx hb dL_thing_13 hl (by decide) rfl (fun ls hl => ?_)
  refine lv_iconst (v := 1) hx hb dL_thing_15 (by decide) ?_
  refine W.widen (k := 1) (n := 6) (by omega) (by omega) ?_
  exact W.iret (v := 1) hx hb hr (fun t ht hW => ⟨⟨1, [], rfl, rfl, (fun k q h => by simp at h), ⟨fun i j p q h => by simp at h, fun k q h => by simp at h⟩⟩, hS1.F ht⟩) hS1.2.2 dL_thing_16
set_option maxHeartbeats 4000000 in
set_option maxRecDepth 100000 in
/-- OnlyHalves.row on a fresh object: it throws -/
theorem kx_X11_row (l : Launch) (hl9 : l.stackTraces = false) (dC : Nat → ClassId) (dI : Nat → Nat → Nat) (cB cI cJ cZ cM : ClassId) (h0 h1 h2 h3 h4 h5 h6 h7 h8 h9 h10 h11 h12 h13 : Nat) (sz : Nat) (p0 : Int32) (sa : Nat) : vx_Met l yX11_row wsX11_row ({ frames := 7, cells := 1, slots := 6, locals := 400 }) (va_Pc [.ref h0, .int p0] (PX (dC, dI) (TY cB cI cJ cZ cM) [(h0, .inr (11, [.ref h1, .ref h2, .ref h3, .ref h4, .ref h5, .ref h6, .ref h7, .ref h8, .ref h9, .ref h10, .ref h11, .ref h12, .ref h13, .int 0, .null]))] sz 423 "no such number in the row" sa)) (va_Qi (fun (_ : Int32) (_ : va_W) => False) (BW (dC, dI) (va_A [(h0, .inr (11, [.ref h1, .ref h2, .ref h3, .ref h4, .ref h5, .ref h6, .ref h7, .ref h8, .ref h9, .ref h10, .ref h11, .ref h12, .ref h13, .int 0, .null]))] sz)) (va_A [(h0, .inr (11, [.ref h1, .ref h2, .ref h3, .ref h4, .ref h5, .ref h6, .ref h7, .ref h8, .ref h9, .ref h10, .ref h11, .ref h12, .ref h13, .int 0, .null]))] sz)) (vx_X (fun _ : Unit => True) (fun E _ _ => E = "java/util/NoSuchElementException") (va_A [(h0, .inr (11, [.ref h1, .ref h2, .ref h3, .ref h4, .ref h5, .ref h6, .ref h7, .ref h8, .ref h9, .ref h10, .ref h11, .ref h12, .ref h13, .int 0, .null]))] sz)) 1 6 (va_A [(h0, .inr (11, [.ref h1, .ref h2, .ref h3, .ref h4, .ref h5, .ref h6, .ref h7, .ref h8, .ref h9, .ref h10, .ref h11, .ref h12, .ref h13, .int 0, .null]))] sz) := by
  refine vx_ofW (cc := cX11_row) (maxL := 2) (ret := (some .int)) (by decide) rfl ?_
  intro p e s m args below meth c s₁ B hml hnt hv
  obtain ⟨rfl, ⟨hsz, hP, hK, hD0, hO⟩, hstr, hU, hN, hcst⟩ := hv
  have hx := B.exec
  have hb := B.bytes
  have hr := B.returns
  have hts := atoms_spec (ws := wsX11_row) B.pre
  have hown : s.vm.findClass RX11 = some m.cls := findClass_of_methodNamed B.named
  have hlocks := B.notSynchronized
  subst hsz
  have hD := hD0.self (sz := s.heap.size)
  generalize hAe : va_A [(h0, .inr (11, [.ref h1, .ref h2, .ref h3, .ref h4, .ref h5, .ref h6, .ref h7, .ref h8, .ref h9, .ref h10, .ref h11, .ref h12, .ref h13, .int 0, .null]))] s.heap.size = A at hD hU hN ⊢
  have hA : ∀ q : Nat, s.heap.size ≤ q → A q := fun q h => by rw [← hAe]; exact Or.inr h
  have hS : va_S A s.heap s.heap [] := va_S.rf
  have hP : va_P (dC, dI) vwCl [(h0, .inr (11, [.ref h1, .ref h2, .ref h3, .ref h4, .ref h5, .ref h6, .ref h7, .ref h8, .ref h9, .ref h10, .ref h11, .ref h12, .ref h13, .int 0, .null]))] s.heap := hP
  have hat : ∀ w ∈ kt_at RX11 119 "java/util/NoSuchElementException" "java/lang/RuntimeException" 13 prog_23_method_4_code ["java/lang/Exception"], w.before #[Value.ref h0, Value.int p0] s = true := vx_hat (fun w h => hts w (List.mem_cons_of_mem _ (List.mem_append_right _ h))) (by decide +kernel) (NX.all hcst)
  have hgood : ∀ w ∈ Cond.classLink RX11 115 "java/util/NoSuchElementException" :: Cond.initialized "java/util/NoSuchElementException" :: kt_at RX11 119 "java/util/NoSuchElementException" "java/lang/RuntimeException" 13 prog_23_method_4_code ["java/lang/Exception"], vx_ot w = true := by decide +kernel
  have hl := lv_entry ([.ref h0, .int p0]) (n := 2) (Nat.le_of_ble_eq_true rfl)
  rw [lg_entry_eq]
  generalize (lg_sl ([.ref h0, .int p0]) ++ List.replicate (2 - (lg_sl ([.ref h0, .int p0])).length) Slot.unset).toArray = ls at hl ⊢
  have hl : lv_has ls 2 [(0, .ref h0), (1, .int p0)] := hl
  refine w_gen hP hS (fun H locs hP hS => ?_)
  refine lv_iload_n hx hb dX11_row_0 rfl (lv_at hl 1 rfl) ?_
  refine lv_if_lt (tgt := 21) hx hb dX11_row_1 (by decide) (fun c_1 => ?_) (fun c_1 => ?_)
  · exact kt_throwSW (own := RX11) (cls := "java/util/NoSuchElementException") (sup := "java/lang/RuntimeException") (text := "no such number in the row") (names := ["java/lang/Exception"]) (ix := 13) (rx := prog_23_method_4_code) (ik := 115) (is := 423) (ic := 119) (sa := sa) (A := A) (x0 := by decide +kernel) (x1 := by decide +kernel) (x2 := by decide +kernel) (x5 := by decide +kernel) hx hb hl9 hown (by decide) (by decide) (by decide) (hts (.classLink RX11 115 "java/util/NoSuchElementException") (by decide +kernel)) (hts (.initialized "java/util/NoSuchElementException") (by decide +kernel)) hstr hat hgood hU hN hS (hl.1.trans hml.symm) dX11_row_21 dX11_row_24 dX11_row_25 dX11_row_28 dX11_row_31 (fun z hz => absurd hz (hnt z)) (Nat.le_of_ble_eq_true rfl) (Nat.le_of_ble_eq_true rfl) (Nat.le_of_ble_eq_true rfl) (Nat.le_of_ble_eq_true rfl) hlocks (fun t hv h1 h2 => ⟨(), trivial, rfl, Nat.le_trans hS.1 h1, fun q hq hn => (h2 q (Nat.lt_of_lt_of_le hq hS.1)).trans (hS.2.1 q hq hn)⟩) hS.2.2 (Nat.le_of_ble_eq_true rfl) (Nat.le_of_ble_eq_true rfl)
  · refine lv_iload_n hx hb dX11_row_4 rfl (lv_at hl 1 rfl) ?_
    refine lv_aload_n hx hb dX11_row_5 rfl (lv_at hl 0 rfl) ?_
    refine va_get (D := (dC, dI)) (tys := TY cB cI cJ cZ cM) (ci := 11) (v := .int 0) (C := RX11) (T := TX11) (N := 15) hx hb hts in_X11_row_X11 hown hK hP 0 rfl rfl 13 (by decide) (hts (.fieldLink RX11 420 "OnlyHalves" "numbersTold" "I") (by decide +kernel)) (fun _ h9 => h9) rfl dX11_row_6 ?_
    refine lv_icmp_ge (tgt := 21) hx hb dX11_row_9 (by decide) (fun c_2 => ?_) (fun c_2 => absurd trivial (fun _ => (by have t1 : ¬ (p0 : Int32).toInt < (0 : Int32).toInt := fun q => c_1 (Int32.lt_iff_toInt_lt.mpr q); have t2 : ¬ (0 : Int32).toInt ≤ (p0 : Int32).toInt := fun q => c_2 (Int32.le_iff_toInt_le.mpr q); have z0 : (0 : Int32).toInt = 0 := (by decide); omega)))
    exact kt_throwSW (own := RX11) (cls := "java/util/NoSuchElementException") (sup := "java/lang/RuntimeException") (text := "no such number in the row") (names := ["java/lang/Exception"]) (ix := 13) (rx := prog_23_method_4_code) (ik := 115) (is := 423) (ic := 119) (sa := sa) (A := A) (x0 := by decide +kernel) (x1 := by decide +kernel) (x2 := by decide +kernel) (x5 := by decide +kernel) hx hb hl9 hown (by decide) (by decide) (by decide) (hts (.classLink RX11 115 "java/util/NoSuchElementException") (by decide +kernel)) (hts (.initialized "java/util/NoSuchElementException") (by decide +kernel)) hstr hat hgood hU hN hS (hl.1.trans hml.symm) dX11_row_21 dX11_row_24 dX11_row_25 dX11_row_28 dX11_row_31 (fun z hz => absurd hz (hnt z)) (Nat.le_of_ble_eq_true rfl) (Nat.le_of_ble_eq_true rfl) (Nat.le_of_ble_eq_true rfl) (Nat.le_of_ble_eq_true rfl) hlocks (fun t hv h1 h2 => ⟨(), trivial, rfl, Nat.le_trans hS.1 h1, fun q hq hn => (h2 q (Nat.lt_of_lt_of_le hq hS.1)).trans (hS.2.1 q hq hn)⟩) hS.2.2 (Nat.le_of_ble_eq_true rfl) (Nat.le_of_ble_eq_true rfl)
set_option maxHeartbeats 4000000 in
set_option maxRecDepth 100000 in
/-- the law's helper row: on a fresh object it answers 1 -/
theorem kh_L_row (l : Launch) (hl9 : l.stackTraces = false) (dC : Nat → ClassId) (dI : Nat → Nat → Nat) (cB cI cJ cZ cM : ClassId) (h0 h1 h2 h3 h4 h5 h6 h7 h8 h9 h10 h11 h12 h13 o0 : Nat) (sz : Nat) (p0 : Int32) (sa : Nat) : Met l yL_row wsL_row ({ frames := 9, cells := 1, slots := 6, locals := 600 }) (va_Pc [.ref h0, .int p0, .ref o0] (PX (dC, dI) (TY cB cI cJ cZ cM) [(h0, .inr (11, [.ref h1, .ref h2, .ref h3, .ref h4, .ref h5, .ref h6, .ref h7, .ref h8, .ref h9, .ref h10, .ref h11, .ref h12, .ref h13, .int 0, .null]))] sz 423 "no such number in the row" sa)) (QI (dC, dI) (fun r _ => r = 1) [(h0, .inr (11, [.ref h1, .ref h2, .ref h3, .ref h4, .ref h5, .ref h6, .ref h7, .ref h8, .ref h9, .ref h10, .ref h11, .ref h12, .ref h13, .int 0, .null]))] sz) 1 6 (va_A [(h0, .inr (11, [.ref h1, .ref h2, .ref h3, .ref h4, .ref h5, .ref h6, .ref h7, .ref h8, .ref h9, .ref h10, .ref h11, .ref h12, .ref h13, .int 0, .null]))] sz) := by
  refine va_MetW (cc := cL_row) (maxL := 4) (ret := (some .int)) (hh := [(0, 9, 12, 13)]) (by decide) rfl ?_
  intro p e s m args below meth c s₁ B hml hv
  obtain ⟨rfl, ⟨hsz, hP, hK, hD0, hO⟩, hstr, hU0, hN0, hcst⟩ := hv
  have hx := B.exec
  have hb := B.bytes
  have hr := B.returns
  have hts := atoms_spec (ws := wsL_row) B.pre
  have hown : s.vm.findClass RL = some m.cls := findClass_of_methodNamed B.named
  have hlocks := B.notSynchronized
  have htab := vx_table (x := yL_row) B (hts _ List.mem_cons_self)

  subst hsz
  have hD := hD0.self (sz := s.heap.size)
  have hS : va_S (va_A [(h0, .inr (11, [.ref h1, .ref h2, .ref h3, .ref h4, .ref h5, .ref h6, .ref h7, .ref h8, .ref h9, .ref h10, .ref h11, .ref h12, .ref h13, .int 0, .null]))] s.heap.size) s.heap s.heap [] := va_S.rf
  have hl := lv_entry ([.ref h0, .int p0, .ref o0]) (n := 4) (Nat.le_of_ble_eq_true rfl)
  rw [lg_entry_eq]
  generalize (lg_sl ([.ref h0, .int p0, .ref o0]) ++ List.replicate (4 - (lg_sl ([.ref h0, .int p0, .ref o0])).length) Slot.unset).toArray = ls at hl ⊢
  have hl : lv_has ls 4 [(0, .ref h0), (1, .int p0), (2, .ref o0)] := hl
  refine lv_aload_n hx hb dL_row_0 rfl (lv_at hl 2 rfl) ?_
  refine lv_iconst (v := 0) hx hb dL_row_1 (by decide) ?_
  refine lv_aload_n hx hb dL_row_2 rfl (lv_at hl 0 rfl) ?_
  refine lv_iload_n hx hb dL_row_3 rfl (lv_at hl 1 rfl) ?_
  refine vx_calli (vx_runV (As := [.int p0]) (rest := [.int 0, .ref o0]) ⟨hx, hb, hml, hown, hts⟩ (kx_X11_row l hl9 dC dI cB cI cJ cZ cM h0 h1 h2 h3 h4 h5 h6 h7 h8 h9 h10 h11 h12 h13 s.heap.size p0 sa) (cwV 1 hts gL_row_X11_row rfl rfl rfl (by decide +kernel) ⟨Nat.le_of_ble_eq_true rfl, Nat.le_of_ble_eq_true rfl⟩) ⟨kx_blind, va_recv hK hP (ci := 11) (q0 := 0) rfl rfl, fun U hU hW => ⟨rfl, ⟨by rw [hU], by rw [hU]; exact hP, va_K.moved hW.alike hK, hD.weaken (fun _ _ _ _ => trivial), NW.warm hW hO⟩, vk_R.warm hW hstr, by rw [hU]; exact vx_Zq.moved hW.alike hU0, by rw [hU]; exact vx_Zq.moved hW.alike hN0, NX.warm hW hcst⟩⟩ rfl rfl hl.1 rfl (lv_room (Nat.le_of_ble_eq_true rfl)) dL_row_4 ⟨Nat.le_of_ble_eq_true rfl, Nat.le_of_ble_eq_true rfl⟩) hS (fun q _ h => h) (fun q h => h) (fun q _ h => h) (fun E ce q9 u t H1 locs1 ht hvm hpx hBX hz hk1 hS1 hce hcv hcl => ?_) (fun r u t H1 locs1 ht hvm hw hB hz1 hk1 hS1 => hw.elim)
  have hBX : E = "java/util/NoSuchElementException" := hBX
  subst hBX
  refine vx_catch (own := RL) (name := "java/util/NoSuchElementException") hown [] ⟨0, 9, 12, 13⟩ [] htab (fun z hz => absurd hz List.not_mem_nil) (by decide) (by decide) (hts (.classLink RL 13 "java/util/NoSuchElementException") (by decide +kernel)) (va_Nw.use rfl hcst.1) hce hcv hcl ?_
  refine W.eq (g2 := F0 m 12 ls [.ref q9]) rfl ?_
  refine lv_astore_n (lv' := [(3, .ref q9), (0, .ref h0), (1, .int p0), (2, .ref o0)]) hx hb dL_row_12 rfl hl (by decide) rfl (fun ls hl => ?_)
  refine lv_iconst (v := 1) hx hb dL_row_13 (by decide) ?_
  refine W.widen (k := 1) (n := 6) (by omega) (by omega) ?_
  exact W.iret (v := 1) hx hb hr (fun t ht hW => ⟨⟨1, [], rfl, rfl, (fun k q h => by simp at h), ⟨fun i j p q h => by simp at h, fun k q h => by simp at h⟩⟩, hS1.F ht⟩) hS1.2.2 dL_row_14
