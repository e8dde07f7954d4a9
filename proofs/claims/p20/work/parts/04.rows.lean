section XR
theorem xh_at.set {D : va_G} {cy : Nat → ClassId} {ad : Nat → Nat} {A : Nat → Prop} {h h' : xh_H} {H H1 : Heap} {c : Nat} {sh : Nat × Nat} (hat : xh_at D cy ad A h H) (hc : h.1[c]? = some sh) (h1 : h'.1 = h.1) (ho : ∀ c', c' ≠ c → xg 0 h'.2.1 c' = xg 0 h.2.1 c' ∧ xg 0 h'.2.2.1 c' = xg 0 h.2.2.1 c' ∧ xg none h'.2.2.2 c' = xg none h.2.2.2 c') (he : va_at D vwCl (ad c, xh_e ad cy h' c sh) H1) (oq : ∀ q : Nat, q ≠ ad c → H1[q]? = H[q]?) (z : H1.size = H.size) : xh_at D cy ad A h' H1 := by
  obtain ⟨hP, hD, hn⟩ := hat
  refine ⟨?_, ?_, ?_⟩
  · rw [← xh_ws_set (ad := ad) (cy := cy) h1 ho hc]
    exact hP.set hD (xh_ws_at hc) he oq
  · rw [← xh_ws_set (ad := ad) (cy := cy) h1 ho hc]
    exact hD.set (xh_ws_at hc)
  · intro j
    rw [h1, z]
    exact hn j
theorem xh_at.new {D : va_G} {cy : Nat → ClassId} {ad : Nat → Nat} {A : Nat → Prop} {h : xh_H} {H H1 : Heap} {sh : Nat × Nat} (hat : xh_at D cy ad A h H) (he : va_at D vwCl (H.size, xh_e ad cy (xh_nw h sh) h.1.length sh) H1) (oq : ∀ q : Nat, q < H.size → H1[q]? = H[q]?) (z : H1.size = H.size + 1) (hA : A H.size) : xh_at D cy ad A (xh_nw h sh) H1 := by
  obtain ⟨hP, hD, hn⟩ := hat
  have h0 : ad h.1.length = H.size := hn 0
  have hw : xh_ws ad cy (xh_nw h sh) = xh_ws ad cy h ++ [(H.size, xh_e ad cy (xh_nw h sh) h.1.length sh)] := by
    rw [← h0]
    exact xh_ws_new rfl (fun c' hc' => ⟨xh_rs_o hc', xh_rs_o hc', xh_rs_o hc'⟩)
  refine ⟨?_, ?_, ?_⟩
  · rw [hw]
    refine (hP.kept (fun k q hq => oq q.1 ((hP k q hq).lt))).app (fun k q hq => ?_)
    have hz : k < 1 := (List.getElem?_eq_some_iff.mp hq).1
    rw [show k = 0 by omega] at hq
    cases hq
    exact he
  · rw [hw]
    exact hD.push hP rfl hA
  · intro j
    have := hn (1 + j)
    simp only [xh_nw, List.length_append, List.length_cons, List.length_nil]
    rw [z, show h.1.length + (0 + 1) + j = h.1.length + (1 + j) by omega, this]
    omega
theorem xw_bb {a b : Bool} (h : (a && b) = true) : a = true ∧ b = true := by cases a <;> cases b <;> simp_all
theorem xw_ble {a b : Nat} (h : Nat.ble a b = true) : a ≤ b := Nat.le_of_ble_eq_true h
theorem xw_beq {a b : Nat} (h : Nat.beq a b = true) : a = b := Nat.eq_of_beq_eq_true h
theorem xw_c {α : Type} {b : Bool} {x : Option α} {o : α} (h : cond b x none = some o) : b = true ∧ x = some o := by
  cases b with
  | true => exact ⟨rfl, h⟩
  | false => cases h
theorem xw_c0 {α : Type} {b : Bool} {x : Option α} {o : α} (h : cond b none x = some o) : b = false ∧ x = some o := by
  cases b with
  | true => cases h
  | false => exact ⟨rfl, h⟩
theorem xe_in_v {i : Int32} {n : Nat} (h : xe_in i n = true) : vp_in i n := by
  obtain ⟨h1, h2⟩ := xw_bb h
  have h1 : ¬ i < 0 := by simpa using h1
  have h2 := xw_ble h2
  intro z
  rcases z with z | z
  · exact h1 z
  · omega
variable {p : Program} {l : Launch} {e : Env} {R : Room} {s : State} {m : MethodId} {args : Array Value} {below : List Frame} {meth : Method} {c : Code} {H : Heap} {locs : List Loc} {cells slots : Nat} {Q : State → Prop}
variable {cc : ByteArray} {pc : Nat} {ls : Array Slot} {rest : List Value} {D : va_G} {A : Nat → Prop} {ad : Nat → Nat} {cy : Nat → ClassId} {h : xh_H} {H0 : Heap} {q0 n : Nat}
theorem xa_iast (hexec : p.tables.exec = Jvm.exec) (hb : c.code = cc) (hK : va_K D vwCl (xh_ts cy) s) (hat : xh_at D cy ad A h H) (hS : va_S A H0 H locs) (hc : h.1[q0]? = some (1, n)) {i x : Int32} (hin : vp_in i n) (hdg : decode cc pc = .ok (.iastore, 1))
    (kk : ∀ (H1 : Heap) (locs1 : List Loc), xh_at D cy ad A (xh_ui h q0 i.toNatClampNeg x) H1 → va_S A H0 H1 locs1 → W p l e R s m args below meth c H1 locs1 cells slots Q (F0 m (pc + 1) ls rest)) : W p l e R s m args below meth c H locs cells slots Q (F0 m pc ls (.int x :: .int i :: .ref (ad q0) :: rest)) := by
  have ha := xh_ws_at (ad := ad) (cy := cy) hc
  refine W.iast hexec hb (hat.1 q0 _ ha) ((hK.2 0 _ rfl).1 n (fun j => .int (xg 0 h.2.1 q0 j))) (fun q => by cases q) (by show ¬ (i < 0 ∨ (arrV _ _ _).slots.size ≤ _); rw [arrV_size]; exact hin) rfl rfl hdg fun H1 e z oq => ?_
  refine kk H1 _ (hat.set (h' := xh_ui h q0 i.toNatClampNeg x) hc rfl (fun c' hc' => ⟨xh_up_o hc', rfl, rfl⟩) ?_ oq z) (hS.put z oq (hat.2.1.2 q0 _ ha))
  show H1[ad q0]? = some (vp_cell _ _)
  rw [e]
  show some (Cell.setSlot (vp_cell _ (n, .inl (xg 0 h.2.1 q0))) _ _) = some (vp_cell _ (n, .inl (xg 0 (xh_up 0 h.2.1 q0 i.toNatClampNeg x) q0)))
  rw [vp_cell_i, vp_cell_i, arrV_store]
  congr 2
  funext q
  by_cases hq : q = i.toNatClampNeg
  · subst hq
    simp [updV, xh_up_s]
  · simp [updV, hq, xh_up_k hq]
theorem xa_bast (hexec : p.tables.exec = Jvm.exec) (hb : c.code = cc) (hK : va_K D vwCl (xh_ts cy) s) (hat : xh_at D cy ad A h H) (hS : va_S A H0 H locs) (hc : h.1[q0]? = some (2, n)) {i x : Int32} (hin : vp_in i n) (hdg : decode cc pc = .ok (.bastore, 1))
    (kk : ∀ (H1 : Heap) (locs1 : List Loc), xh_at D cy ad A (xh_ui h q0 i.toNatClampNeg (vp_nar .byte x)) H1 → va_S A H0 H1 locs1 → W p l e R s m args below meth c H1 locs1 cells slots Q (F0 m (pc + 1) ls rest)) : W p l e R s m args below meth c H locs cells slots Q (F0 m pc ls (.int x :: .int i :: .ref (ad q0) :: rest)) := by
  have ha := xh_ws_at (ad := ad) (cy := cy) hc
  refine W.bast hexec hb (hat.1 q0 _ ha) ((hK.2 1 _ rfl).1 n (fun j => .int (xg 0 h.2.1 q0 j))) (fun q => by cases q) (by show ¬ (i < 0 ∨ (arrV _ _ _).slots.size ≤ _); rw [arrV_size]; exact hin) rfl rfl hdg fun H1 e z oq => ?_
  refine kk H1 _ (hat.set (h' := xh_ui h q0 i.toNatClampNeg (vp_nar .byte x)) hc rfl (fun c' hc' => ⟨xh_up_o hc', rfl, rfl⟩) ?_ oq z) (hS.put z oq (hat.2.1.2 q0 _ ha))
  show H1[ad q0]? = some (vp_cell _ _)
  rw [e]
  show some (Cell.setSlot (vp_cell _ (n, .inl (xg 0 h.2.1 q0))) _ _) = some (vp_cell _ (n, .inl (xg 0 (xh_up 0 h.2.1 q0 i.toNatClampNeg (vp_nar .byte x)) q0)))
  rw [vp_cell_i, vp_cell_i, arrV_store]
  congr 2
  funext q
  by_cases hq : q = i.toNatClampNeg
  · subst hq
    simp [updV, xh_up_s, vp_nar]
    try rfl
  · simp [updV, hq, xh_up_k hq]
theorem xa_zast (hexec : p.tables.exec = Jvm.exec) (hb : c.code = cc) (hK : va_K D vwCl (xh_ts cy) s) (hat : xh_at D cy ad A h H) (hS : va_S A H0 H locs) (hc : h.1[q0]? = some (3, n)) {i x : Int32} (hin : vp_in i n) (hdg : decode cc pc = .ok (.bastore, 1))
    (kk : ∀ (H1 : Heap) (locs1 : List Loc), xh_at D cy ad A (xh_ui h q0 i.toNatClampNeg (vp_nar .boolean x)) H1 → va_S A H0 H1 locs1 → W p l e R s m args below meth c H1 locs1 cells slots Q (F0 m (pc + 1) ls rest)) : W p l e R s m args below meth c H locs cells slots Q (F0 m pc ls (.int x :: .int i :: .ref (ad q0) :: rest)) := by
  have ha := xh_ws_at (ad := ad) (cy := cy) hc
  refine W.zast hexec hb (hat.1 q0 _ ha) ((hK.2 2 _ rfl).1 n (fun j => .int (xg 0 h.2.1 q0 j))) (fun q => by cases q) (by show ¬ (i < 0 ∨ (arrV _ _ _).slots.size ≤ _); rw [arrV_size]; exact hin) rfl rfl hdg fun H1 e z oq => ?_
  refine kk H1 _ (hat.set (h' := xh_ui h q0 i.toNatClampNeg (vp_nar .boolean x)) hc rfl (fun c' hc' => ⟨xh_up_o hc', rfl, rfl⟩) ?_ oq z) (hS.put z oq (hat.2.1.2 q0 _ ha))
  show H1[ad q0]? = some (vp_cell _ _)
  rw [e]
  show some (Cell.setSlot (vp_cell _ (n, .inl (xg 0 h.2.1 q0))) _ _) = some (vp_cell _ (n, .inl (xg 0 (xh_up 0 h.2.1 q0 i.toNatClampNeg (vp_nar .boolean x)) q0)))
  rw [vp_cell_i, vp_cell_i, arrV_store]
  congr 2
  funext q
  by_cases hq : q = i.toNatClampNeg
  · subst hq
    simp [updV, xh_up_s, vp_nar]
    try rfl
  · simp [updV, hq, xh_up_k hq]
theorem xa_last (hexec : p.tables.exec = Jvm.exec) (hb : c.code = cc) (hK : va_K D vwCl (xh_ts cy) s) (hat : xh_at D cy ad A h H) (hS : va_S A H0 H locs) (hc : h.1[q0]? = some (4, n)) {i : Int32} {x : Int64} (hin : vp_in i n) (hdg : decode cc pc = .ok (.lastore, 1))
    (kk : ∀ (H1 : Heap) (locs1 : List Loc), xh_at D cy ad A (xh_ul h q0 i.toNatClampNeg x) H1 → va_S A H0 H1 locs1 → W p l e R s m args below meth c H1 locs1 cells slots Q (F0 m (pc + 1) ls rest)) : W p l e R s m args below meth c H locs cells slots Q (F0 m pc ls (.long x :: .int i :: .ref (ad q0) :: rest)) := by
  have ha := xh_ws_at (ad := ad) (cy := cy) hc
  refine W.last hexec hb (hat.1 q0 _ ha) ((hK.2 3 _ rfl).1 n (fun j => .long (xg 0 h.2.2.1 q0 j))) (fun q => by cases q) (by show ¬ (i < 0 ∨ (arrV _ _ _).slots.size ≤ _); rw [arrV_size]; exact hin) rfl rfl hdg fun H1 e z oq => ?_
  refine kk H1 _ (hat.set (h' := xh_ul h q0 i.toNatClampNeg x) hc rfl (fun c' hc' => ⟨rfl, xh_up_o hc', rfl⟩) ?_ oq z) (hS.put z oq (hat.2.1.2 q0 _ ha))
  show H1[ad q0]? = some (vp_cell _ _)
  rw [e]
  show some (Cell.setSlot (vp_cell _ (n, .inr (.inl (xg 0 h.2.2.1 q0)))) _ _) = some (vp_cell _ (n, .inr (.inl (xg 0 (xh_up 0 h.2.2.1 q0 i.toNatClampNeg x) q0))))
  rw [vp_cell_l, vp_cell_l, arrV_store]
  congr 2
  funext q
  by_cases hq : q = i.toNatClampNeg
  · subst hq
    simp [updV, xh_up_s]
  · simp [updV, hq, xh_up_k hq]
theorem xa_astq (hexec : p.tables.exec = Jvm.exec) (hb : c.code = cc) (hK : va_K D vwCl (xh_ts cy) s) (hat : xh_at D cy ad A h H) (hS : va_S A H0 H locs) (hc : h.1[q0]? = some (5, n)) {v : Nat} (hv : h.1[v]? = some (0, 7)) {i : Int32} (hin : vp_in i n) (hdg : decode cc pc = .ok (.aastore, 1))
    (kk : ∀ (H1 : Heap) (locs1 : List Loc), xh_at D cy ad A (xh_ur h q0 i.toNatClampNeg (some v)) H1 → va_S A H0 H1 locs1 → W p l e R s m args below meth c H1 locs1 cells slots Q (F0 m (pc + 1) ls rest)) : W p l e R s m args below meth c H locs cells slots Q (F0 m pc ls (.ref (ad v) :: .int i :: .ref (ad q0) :: rest)) := by
  have ha := xh_ws_at (ad := ad) (cy := cy) hc
  have hlt : i.toNatClampNeg < n := Nat.not_le.mp fun q => hin (Or.inr q)
  have h0 : ¬ i < 0 := fun q => hin (Or.inl q)
  obtain ⟨r', hr', cellV, g1, g2, g3, -⟩ := hat.1 v _ (xh_ws_at (ad := ad) (cy := cy) hv)
  have hcls := (hK.1 7 _ rfl).2
  obtain ⟨kA, comp, k1, k2, k3, -⟩ := (hK.2 4 _ rfl).2
  have hcomp : comp = D.1 7 := Option.some.inj (k3.symm.trans hcls.1)
  subst hcomp
  obtain ⟨kC, hkC, -⟩ := hcls.2
  refine W.aast hexec hb (hat.1 q0 _ ha) (fun q h => by cases h) (fun h => by cases h) k1 k2 rfl hkC ⟨h0, by show _ < (arrV _ _ _).slots.size; rw [arrV_size]; exact hlt⟩ g1 (fun q h => by rw [g3] at h; cases h) (by rw [g2]; exact hkC) (by rw [g2]; exact va_assign hcls) rfl rfl hdg fun H1 e z oq => ?_
  refine kk H1 _ (hat.set (h' := xh_ur h q0 i.toNatClampNeg (some v)) hc rfl (fun c' hc' => ⟨rfl, rfl, xh_up_o hc'⟩) ?_ oq z) (hS.put z oq (hat.2.1.2 q0 _ ha))
  show H1[ad q0]? = some (vp_cell _ _)
  rw [e]
  show some (Cell.setSlot (vp_cell _ (n, .inr (.inr (.inr (.inr (fun j => (xg none h.2.2.2 q0 j).map ad)))))) _ _) = some (vp_cell _ (n, .inr (.inr (.inr (.inr (fun j => (xg none (xh_up none h.2.2.2 q0 i.toNatClampNeg (some v)) q0 j).map ad))))))
  rw [vp_cell_q, vp_cell_q, arrV_store]
  congr 2
  funext q
  by_cases hq : q = i.toNatClampNeg
  · subst hq
    simp [updV, xh_up_s, va_rf]
  · simp [updV, hq, xh_up_k hq]
/-- a field is written; h' is the heap behind it -/
theorem xa_put (hexec : p.tables.exec = Jvm.exec) (hb : c.code = cc) {own ref C : String} {T : u_T} {N ci index : Nat} {Ts : List Cond} (hts : ∀ w ∈ Ts, w.before args s = true) (hin : ∀ w ∈ u_ws C T N, w ∈ Ts) (hty : ∀ k, k < N → parseFieldDescriptor (T k).2.2.1 = some (xh_ty ci k)) (hnm : ∀ a, a < N → ∀ b, b < N → a ≠ b → (T a).2.1 ≠ (T b).2.1) (hown : s.vm.findClass own = some m.cls) (hK : va_K D vwCl (xh_ts cy) s) (hat : xh_at D cy ad A h H) (hS0 : va_S A H0 H locs) (hc0 : h.1[q0]? = some (0, ci)) (hc : vwCl[ci]? = some (C, T, N)) (hN : N = xh_N ci) (k : Nat) (hk : k < N) (hlink : (Cond.fieldLink own index ref (T k).2.1 (T k).2.2.1).before args s = true) (hsame : ∀ x, s.fieldFound? (T k).1 (T k).2.1 (T k).2.2.1 = some x → s.fieldFound? ref (T k).2.1 (T k).2.2.1 = some x) (hfin : (T k).2.2.2 = false ∨ (meth.name = "<init>" ∧ (T k).1 = own)) {v : Value} (hn : narrow (xh_ty ci k) v = v) (hfit : fits (xh_ty ci k) v = true) {h' : xh_H} (h1 : h'.1 = h.1) (ho : ∀ c', c' ≠ q0 → xg 0 h'.2.1 c' = xg 0 h.2.1 c' ∧ xg 0 h'.2.2.1 c' = xg 0 h.2.2.1 c' ∧ xg none h'.2.2.2 c' = xg none h.2.2.2 c') (hv : xh_fv ad h' q0 (xh_ty ci k) k = v) (hvo : ∀ j, j ≠ k → xh_fv ad h' q0 (xh_ty ci j) j = xh_fv ad h q0 (xh_ty ci j) j)
    (hdg : decode cc pc = .ok (.putfield index, 3)) (kk : ∀ (H1 : Heap) (locs1 : List Loc), xh_at D cy ad A h' H1 → va_S A H0 H1 locs1 → W p l e R s m args below meth c H1 locs1 cells slots Q (F0 m (pc + 3) ls rest)) : W p l e R s m args below meth c H locs cells slots Q (F0 m pc ls (v :: .ref (ad q0) :: rest)) := by
  have hap := va_apart (own := own) hts hin (xh_ty ci) hty hnm hK hc
  have he := xh_ws_at (ad := ad) (cy := cy) hc0
  obtain ⟨r, g1, cell, q1, q2, q3, q4⟩ := hat.1 q0 _ he
  have hr : r = (C, T, N) := Option.some.inj (g1.symm.trans hc)
  subst hr
  obtain ⟨hSl, hfc, kC, hkC, hkind⟩ := hK.1 ci _ hc
  obtain ⟨cf, kf, fi, f, hi, hsl⟩ := hSl k hk
  have hlay := hts _ (hin _ (u_in_lay hk))
  have hst := (u_facts hfc hkC (u_lays hts hin hk) hi).1
  have fin : ∀ (H' : Heap), H'[ad q0]? = some (cell.setSlot f.slot v) → H'.size = H.size → (∀ q, q ≠ ad q0 → H'[q]? = H[q]?) → W p l e R s m args below meth c H' (locs ++ [⟨ad q0, f.slot⟩]) cells slots Q (F0 m (pc + 3) ls rest) := by
    intro H' e1 e2 e3
    rw [hsl] at e1 ⊢
    refine kk H' _ (hat.set hc0 h1 ho ?_ e3 e2) (hS0.put e2 e3 (hat.2.1.2 q0 _ he))
    refine ⟨_, hc, ?_⟩
    have hob : t_OB (ad q0) (D.1 ci) N (D.2 ci) H' (updV (vp_V ((List.range (xh_N ci)).map (fun k => xh_fv ad h q0 (xh_ty ci k) k))) k v) := ⟨_, e1, q2, q3, t_set q4 hap hk v⟩
    refine hob.to (fun j _ => ?_)
    rw [vp_updV_set (by simp [← hN, hk]) v j]
    show vp_V _ j = vp_V ((List.range (xh_N ci)).map (fun k => xh_fv ad h' q0 (xh_ty ci k) k)) j
    rw [xh_fs_set (g := fun k => xh_fv ad h' q0 (xh_ty ci k) k) hv hvo]
  by_cases hf : (T k).2.2.2 = true
  · have hf2 : meth.name = "<init>" ∧ (T k).1 = own := by
      rcases hfin with z | z
      · rw [hf] at z; cases z
      · exact z
    unfold u_lay at hlay
    rw [if_pos hf] at hlay
    have hcf : m.cls = cf := by
      obtain ⟨_, _, c', _, _, _, -, -, hf', -, -, -, hown2, -⟩ := Cond.laysFinal_spec hlay
      have e1 : c' = cf := by have := hi.symm.trans hf'; simp at this; exact this.1.symm
      rw [hf2.2] at hown2
      rw [← e1]; exact Option.some.inj (hown.symm.trans hown2)
    have h6 := u_fits hfc hkC hkind (Or.inr hlay) hi (hty k hk) hn hfit
    exact W.putFinK hexec hb hown hlink (hsame _ hi) hst hcf hf2.1 (by rw [q2]; exact h6) q1 q3 (by rw [hsl]; exact k2_hasslot (q4 k hk)) rfl rfl hdg fin
  · unfold u_lay at hlay
    rw [if_neg hf] at hlay
    have h6 := u_store hfc hkC hkind hlay hi (hty k hk) hn hfit
    exact W.putK hexec hb (f := f) ⟨hown, hlink, ⟨_, _, _, hsame _ hi⟩, hst⟩ (by rw [q2]; exact h6) q1 q3 (by rw [hsl]; exact k2_hasslot (q4 k hk)) rfl rfl hdg fin
end XR
