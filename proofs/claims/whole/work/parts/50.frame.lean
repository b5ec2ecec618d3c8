/-! the frame: what isn't the callee's stays; constructors; new rows -/
theorem fr_cross {A : Nat → Prop} {v w : va_W} (hD : va_D A (v ++ w)) : ∀ (i j : Nat) (p q : Nat × va_E), v[i]? = some p → w[j]? = some q → p.1 ≠ q.1 := by
  intro i j p q hi hj e
  have hil : i < v.length := (List.getElem?_eq_some_iff.mp hi).1
  have h1 : (v ++ w)[i]? = some p := by rw [List.getElem?_append_left hil]; exact hi
  have h2 : (v ++ w)[v.length + j]? = some q := by rw [List.getElem?_append_right (by omega)]; rw [Nat.add_sub_cancel_left]; exact hj
  have := hD.1 i (v.length + j) p q h1 h2 e
  omega
theorem fr_Pl {D : va_G} {cl : List vw_C} {v w : va_W} {H : Heap} (h : va_P D cl (v ++ w) H) : va_P D cl v H := fun k q hq => h k q (by rw [List.getElem?_append_left (List.getElem?_eq_some_iff.mp hq).1]; exact hq)
theorem fr_Pr {D : va_G} {cl : List vw_C} {v w : va_W} {H : Heap} (h : va_P D cl (v ++ w) H) : va_P D cl w H := fun k q hq => h (v.length + k) q (by rw [List.getElem?_append_right (by omega), Nat.add_sub_cancel_left]; exact hq)
theorem fr_Dl {A : Nat → Prop} {v w : va_W} (h : va_D A (v ++ w)) : va_D A v := ⟨fun i j p q hi hj e => h.1 i j p q (by rw [List.getElem?_append_left (List.getElem?_eq_some_iff.mp hi).1]; exact hi) (by rw [List.getElem?_append_left (List.getElem?_eq_some_iff.mp hj).1]; exact hj) e, fun k q hq => h.2 k q (by rw [List.getElem?_append_left (List.getElem?_eq_some_iff.mp hq).1]; exact hq)⟩
theorem fr_Dr {A : Nat → Prop} {v w : va_W} (h : va_D A (v ++ w)) : va_D A w := ⟨fun i j p q hi hj e => by
    have := h.1 (v.length + i) (v.length + j) p q (by rw [List.getElem?_append_right (by omega), Nat.add_sub_cancel_left]; exact hi) (by rw [List.getElem?_append_right (by omega), Nat.add_sub_cancel_left]; exact hj) e
    omega, fun k q hq => h.2 (v.length + k) q (by rw [List.getElem?_append_right (by omega), Nat.add_sub_cancel_left]; exact hq)⟩
theorem fr_out {D : va_G} {cl : List vw_C} {v w : va_W} {H : Heap} (hP : va_P D cl v H) (hx : ∀ (i j : Nat) (p q : Nat × va_E), v[i]? = some p → w[j]? = some q → p.1 ≠ q.1) : ∀ (k : Nat) (p : Nat × va_E), v[k]? = some p → ¬ va_A w H.size p.1 := by
  intro k p hk h
  rcases h with ⟨j, e, hj⟩ | h
  · exact hx k j p _ hk hj rfl
  · exact absurd (hP k p hk).lt (Nat.not_lt.mpr h)
theorem fr_keep {D : va_G} {cl : List vw_C} {v w : va_W} {H H1 : Heap} (hP : va_P D cl v H) (hx : ∀ (i j : Nat) (p q : Nat × va_E), v[i]? = some p → w[j]? = some q → p.1 ≠ q.1) (hk : ∀ q : Nat, q < H.size → ¬ va_A w H.size q → H1[q]? = H[q]?) : va_P D cl v H1 :=
  hP.kept (fun k q hq => hk q.1 (hP k q hq).lt (fr_out hP hx k q hq))
theorem fr_new {D : va_G} {cl : List vw_C} {v w w1 : va_W} {H : Heap} (hP : va_P D cl v H) (hx : ∀ (i j : Nat) (p q : Nat × va_E), v[i]? = some p → w[j]? = some q → p.1 ≠ q.1) (hD1 : va_D (va_A w H.size) w1) : ∀ (i j : Nat) (p q : Nat × va_E), v[i]? = some p → w1[j]? = some q → p.1 ≠ q.1 := by
  intro i j p q hi hj e
  exact fr_out hP hx i p hi (by rw [e]; exact hD1.2 j q hj)
section FRAME
variable {p : Program} {l : Launch} {e : Env} {R : Room} {s : State} {m : MethodId} {args : Array Value} {below : List Frame} {meth : Method} {c : Code} {H H0 : Heap} {locs : List Loc} {Q : State → Prop} {cells slots : Nat}
  {y : MethodName} {bytes cc : ByteArray} {maxL nL index mc ms : Nat} {ret : Option FieldType} {rm : Room} {D : va_G} {cI : ClassId} {w v : va_W} {own C : String} {b : Addr} {As rest st : List Value} {A : Nat → Prop} {pc : Nat} {ls : Array Slot} {S : Type} {wf : S → va_W}
/-- a call whose own cells stand first -/
theorem call_Vi1 (n : Nat) {post : Int32 → S → Prop} (hM : MetI l y (wsU y bytes maxL ret) rm D cI (.ref b :: As) w wf post) (F : cFix p s m args c cc nL own D cI H0 A) (cw : cWV R own C index y bytes maxL ret rm n) (hn : As.length = n) (hrec : ∃ cell : Cell, H[b]? = some cell ∧ cell.vm.isStatics = false ∧ s.vm.findClass C = some cell.cls)
    (hP : va_P D vwCl (w ++ v) H) (hD : va_D A (w ++ v)) (hS : va_S A H0 H locs) (hsize : ls.size = nL) (hst : st = As.reverse ++ .ref b :: rest) (hW : (rest.map fun v => v.category).sum ≤ 8) (hdg : decode cc pc = .ok (.invokevirtual index, 3)) (hf : cells ≤ R.cells ∧ slots ≤ R.slots)
    (kk : ∀ (r : Int32) (u : S) (H1 : Heap) (locs1 : List Loc), post r u → va_P D vwCl (wf u ++ v) H1 → va_D A (wf u ++ v) → va_S A H0 H1 locs1 → W p l e R s m args below meth c H1 locs1 cells slots Q (F0 m (pc + 3) ls (.int r :: rest))) : W p l e R s m args below meth c H locs cells slots Q (F0 m pc ls st) := by
  obtain ⟨hx, hb, hml, hown, hts, hK, hN, hA⟩ := F
  have hFc := free_A (fr_Dl hD) hS hA
  have hcr : ∀ (i j : Nat) (p q : Nat × va_E), v[i]? = some p → w[j]? = some q → p.1 ≠ q.1 := fun i j p q hi hj e => fr_cross hD j i q p hj hi e.symm
  refine va_calli (va_runV (As := As) (rest := rest) ⟨hx, hb, hml, hown, hts⟩ (hM H.size) (cw_V hts cw) ⟨cP_blind, hrec, cP_pre (fr_Pl hP) (fr_Dl hD) hK hN⟩ rfl hn hsize hst (lv_room hW) hdg hf) hS (fun q _ h => hFc q h) hFc (fun r u t H1 locs ht hvm hw hB hz1 hk1 hS => ?_)
  obtain ⟨hP1, hK1, hD1⟩ := hB
  rw [ht] at hP1
  exact kk r u H1 locs hw (hP1.app (fr_keep (fr_Pr hP) hcr hk1)) ((hD1.weaken (fun _ _ _ h => hFc _ h)).app (fr_Dr hD) (fun i j p q hi hj e => fr_new (fr_Pr hP) hcr hD1 j i q p hj hi e.symm)) hS
/-- a call whose own cells stand last -/
theorem call_Vi2 (n : Nat) {post : Int32 → S → Prop} (hM : MetI l y (wsU y bytes maxL ret) rm D cI (.ref b :: As) w wf post) (F : cFix p s m args c cc nL own D cI H0 A) (cw : cWV R own C index y bytes maxL ret rm n) (hn : As.length = n) (hrec : ∃ cell : Cell, H[b]? = some cell ∧ cell.vm.isStatics = false ∧ s.vm.findClass C = some cell.cls)
    (hP : va_P D vwCl (v ++ w) H) (hD : va_D A (v ++ w)) (hS : va_S A H0 H locs) (hsize : ls.size = nL) (hst : st = As.reverse ++ .ref b :: rest) (hW : (rest.map fun v => v.category).sum ≤ 8) (hdg : decode cc pc = .ok (.invokevirtual index, 3)) (hf : cells ≤ R.cells ∧ slots ≤ R.slots)
    (kk : ∀ (r : Int32) (u : S) (H1 : Heap) (locs1 : List Loc), post r u → va_P D vwCl (v ++ wf u) H1 → va_D A (v ++ wf u) → va_S A H0 H1 locs1 → W p l e R s m args below meth c H1 locs1 cells slots Q (F0 m (pc + 3) ls (.int r :: rest))) : W p l e R s m args below meth c H locs cells slots Q (F0 m pc ls st) := by
  obtain ⟨hx, hb, hml, hown, hts, hK, hN, hA⟩ := F
  have hFc := free_A (fr_Dr hD) hS hA
  refine va_calli (va_runV (As := As) (rest := rest) ⟨hx, hb, hml, hown, hts⟩ (hM H.size) (cw_V hts cw) ⟨cP_blind, hrec, cP_pre (fr_Pr hP) (fr_Dr hD) hK hN⟩ rfl hn hsize hst (lv_room hW) hdg hf) hS (fun q _ h => hFc q h) hFc (fun r u t H1 locs ht hvm hw hB hz1 hk1 hS => ?_)
  obtain ⟨hP1, hK1, hD1⟩ := hB
  rw [ht] at hP1
  exact kk r u H1 locs hw ((fr_keep (fr_Pl hP) (fr_cross hD) hk1).app hP1) ((fr_Dl hD).app (hD1.weaken (fun _ _ _ h => hFc _ h)) (fr_new (fr_Pl hP) (fr_cross hD) hD1)) hS
def MetN (l : Launch) (y : MethodName) (ws : List Cond) (rm : Room) (D : va_G) (cI : ClassId) (av : List Value) (w : va_W) (mc ms : Nat) {S : Type} (wf : S → va_W) (post : S → Prop) : Prop :=
  ∀ sz, Met l y ws rm (va_Pc av (cP D cI w sz)) (va_Qv post (fun u => cB D cI (va_A w sz) (wf u)) (va_A w sz)) mc ms (va_A w sz)
/-- a constructor whose own cells stand last; it makes mc cells of ms slots -/
theorem call_N {post : S → Prop} (hM : MetN l y (wsU y bytes maxL none) rm D cI [.ref b] w mc ms wf post) (F : cFix p s m args c cc nL own D cI H0 A) (hl : Cond.methodLink own index y ∈ wsG) (hi : Cond.instanceMethod y ∈ wsG) (hini : Cond.initialized y.cls ∈ wsG) (hc : Cond.code y bytes maxL none ∈ wsG) (hname : y.name = "<init>") (hd : y.cls ≠ "java/lang/invoke/MethodHandle" ∧ y.cls ≠ "java/lang/invoke/VarHandle" ∧ (parseMethodDescriptor y.desc).map (fun d => d.parameters.length) = some 0) (hrm : rm.cells = mc ∧ rm.slots = ms) (hR : rm.frames + 1 ≤ R.frames ∧ 8 + (maxL + 11) + rm.locals ≤ R.locals)
    (hP : va_P D vwCl (v ++ w) H) (hD : va_D A (v ++ w)) (hS : va_S A H0 H locs) (hsize : ls.size = nL) (hW : (rest.map fun v => v.category).sum ≤ 8) (hdg : decode cc pc = .ok (.invokespecial index, 3)) (hf : cells + mc ≤ R.cells ∧ slots + ms ≤ R.slots)
    (kk : ∀ (u : S) (H1 : Heap) (locs1 : List Loc), post u → va_P D vwCl (v ++ wf u) H1 → va_D A (v ++ wf u) → va_S A H0 H1 locs1 → W p l e R s m args below meth c H1 locs1 (cells + mc) (slots + ms) Q (F0 m (pc + 3) ls rest)) : W p l e R s m args below meth c H locs cells slots Q (F0 m pc ls (.ref b :: rest)) := by
  obtain ⟨hx, hb, hml, hown, hts, hK, hN, hA⟩ := F
  have hFc := free_A (fr_Dr hD) hS hA
  refine va_callv (va_runI (As := []) (rest := rest) ⟨hx, hb, hml, hown, hts⟩ (hM H.size) (cwI (Ts := wsG) 0 hts (goodU (fun _ h => h) hc) rfl hrm.1 hrm.2 (hts _ hini) (hts _ hl) (hts _ hi) hname hd hR) ⟨cP_blind, cP_pre (fr_Pr hP) (fr_Dr hD) hK hN⟩ rfl rfl hsize rfl (lv_room hW) hdg hf) hS (fun q _ h => hFc q h) hFc (fun u t H1 locs ht hvm hw hB hz1 hk1 hS => ?_)
  obtain ⟨hP1, hK1, hD1⟩ := hB
  rw [ht] at hP1
  exact kk u H1 locs hw ((fr_keep (fr_Pl hP) (fr_cross hD) hk1).app hP1) ((fr_Dl hD).app (hD1.weaken (fun _ _ _ h => hFc _ h)) (fr_new (fr_Pl hP) (fr_cross hD) hD1)) hS
/-- a new row of ints -/
theorem new_I {n : Int32} {N : Nat} (hx : p.tables.exec = Jvm.exec) (hb : c.code = cc) (hts : ∀ w ∈ wsG, w.before args s = true) (hK : va_K D vwCl [(cI, .int)] s) (hP : va_P D vwCl w H) (hD : va_D A w) (hS : va_S A H0 H locs) (hA : ∀ q : Nat, H0.size ≤ q → A q) (hn : ¬ n < 0) (hN : n.toNatClampNeg = N) (hbytes : N * componentBytes .int ≤ 536870912) (hcells : cells + 1 ≤ R.cells) (hslots : slots + N ≤ R.slots) (hdg : decode cc pc = .ok (.newarray .int, 2))
    (kk : ∀ (q : Nat) (H1 : Heap), va_P D vwCl (w ++ [(q, .inl (cI, N, .inl (fun _ => 0)))]) H1 → va_D A (w ++ [(q, .inl (cI, N, .inl (fun _ => 0)))]) → va_S A H0 H1 locs → W p l e R s m args below meth c H1 locs (cells + 1) (slots + N) Q (F0 m (pc + 2) ls (.ref q :: rest))) : W p l e R s m args below meth c H locs cells slots Q (F0 m pc ls (.int n :: rest)) := by
  refine va_newa (D := D) (atype := .int) hx hb (hts _ kw_32) rfl hK hP hD hS hA (a0 := (N, .inl (fun _ => 0))) (fun _ => rfl) hn hN hbytes hcells hslots hdg (fun q cA H1 hK1 hP1 hD1 hS1 => ?_)
  have a1 : s.vm.findClass "[I" = some cI := (hK1.2 0 _ rfl).2
  have a2 : s.vm.findClass "[I" = some cA := (hK1.2 1 _ rfl).2
  have e : cA = cI := Option.some.inj (a2.symm.trans a1)
  rw [e] at hP1 hD1
  exact kk q H1 hP1 hD1 hS1
end FRAME
set_option maxHeartbeats 4000000 in
theorem MetN.of {l : Launch} {y : MethodName} {cc : ByteArray} {maxL mc ms : Nat} {rm : Room} {D : va_G} {cI : ClassId} {av : List Value} {w : va_W} {S : Type} {wf : S → va_W} {post : S → Prop} (hy : plainName y.cls = true) (hlen : (lg_sl av).length ≤ maxL)
    (body : ∀ (p : Program) (e : Env) (s : State) (m : MethodId) (below : List Frame) (meth : Method) (c : Code) (A : Nat → Prop) (Q : State → Prop) (ls : Array Slot), p.tables.exec = Jvm.exec → c.code = cc → c.maxLocals = maxL → s.vm.findClass y.cls = some m.cls → (∀ w ∈ wsG, w.before av.toArray s = true) → va_K D vwCl [(cI, .int)] s → cN s → (∀ q : Nat, s.heap.size ≤ q → A q) → meth.name = y.name →
      (∀ (u : S) (H : Heap) (locs : List Loc) (pc : Nat) (ls : Array Slot), post u → va_P D vwCl (wf u) H → va_D A (wf u) → va_S A s.heap H locs → decode cc pc = .ok (.return_, 1) → W p l e rm s m av.toArray below meth c H locs mc ms Q (F0 m pc ls [])) →
      va_P D vwCl w s.heap → va_D A w → va_S A s.heap s.heap [] → lv_has ls maxL (lv_args 0 av) → W p l e rm s m av.toArray below meth c s.heap [] 0 0 Q (F0 m 0 ls [])) : MetN l y (wsU y cc maxL none) rm D cI av w mc ms wf post := by
  intro sz
  refine Met.ofW (cc := cc) (maxL := maxL) (ret := none) hy rfl ?_
  intro p e s m args below meth c s₁ B hml hv
  obtain ⟨rfl, hsz, hP, hK, hD0, hN⟩ := hv
  have hx := B.exec
  have hb := B.bytes
  have hr := B.returns
  have hts := atoms_spec (ws := wsU y cc maxL none) B.pre
  have hown : s.vm.findClass y.cls = some m.cls := findClass_of_methodNamed B.named
  have hlocks := B.notSynchronized
  have hin : meth.name = y.name := (name_of_methodNamed B.named B.method).1
  subst hsz
  have hD := hD0.self (sz := s.heap.size)
  have hA : ∀ q : Nat, s.heap.size ≤ q → va_A w s.heap.size q := fun q h => Or.inr h
  have hl := lv_entry av (n := maxL) hlen
  rw [lg_entry_eq]
  refine body p e s m below meth c (va_A w s.heap.size) _ _ hx hb hml hown (fun w h => hts w (List.mem_cons_of_mem _ h)) hK hN hA hin ?_ hP hD va_S.rf hl
  intro u H locs pc ls hp hP hD hS hdg
  exact W.vret hx hb hr (fun t ht hW => ⟨⟨u, rfl, hp, by rw [ht]; exact hP, va_K.moved hW.alike hK, hD⟩, hS.F ht⟩) hS.2.2 hdg
