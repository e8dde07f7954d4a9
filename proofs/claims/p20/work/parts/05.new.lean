section XN
variable {p : Program} {l : Launch} {e : Env} {R : Room} {s : State} {m : MethodId} {args : Array Value} {below : List Frame} {meth : Method} {c : Code} {H : Heap} {locs : List Loc} {cells slots : Nat} {Q : State → Prop}
variable {cc : ByteArray} {pc : Nat} {ls : Array Slot} {rest : List Value} {D : va_G} {A : Nat → Prop} {ad : Nat → Nat} {cy : Nat → ClassId} {h : xh_H} {H0 : Heap} {q0 n : Nat}
theorem xh_dv (ci k : Nat) (hk : (∃ q, xh_ty ci k = .object q) ∨ (∃ q, xh_ty ci k = .array q) ∨ xh_ty ci k = .int ∨ xh_ty ci k = .boolean ∨ xh_ty ci k = .long) (ad : Nat → Nat) (h : xh_H) (sh : Nat × Nat) : defaultValue (xh_ty ci k) = xh_fv ad (xh_nw h sh) h.1.length (xh_ty ci k) k := by
  have hi : xg 0 (xh_nw h sh).2.1 h.1.length k = 0 := by show xg 0 (xh_rs h.2.1 h.1.length) h.1.length k = 0; rw [xh_rs_s]
  have hl : xg 0 (xh_nw h sh).2.2.1 h.1.length k = 0 := by show xg 0 (xh_rs h.2.2.1 h.1.length) h.1.length k = 0; rw [xh_rs_s]
  have hr : xg none (xh_nw h sh).2.2.2 h.1.length k = none := by show xg none (xh_rs h.2.2.2 h.1.length) h.1.length k = none; rw [xh_rs_s]
  rcases hk with ⟨q, hq⟩ | ⟨q, hq⟩ | hq | hq | hq <;> rw [hq] <;> simp [xh_fv, hi, hl, hr, defaultValue, va_rf]
theorem xa_new (hexec : p.tables.exec = Jvm.exec) (hb : c.code = cc) {own C : String} {T : u_T} {N ci index : Nat} {Ts : List Cond} (hts : ∀ w ∈ Ts, w.before args s = true) (hin : ∀ w ∈ u_ws C T N, w ∈ Ts) (hty : ∀ k, k < N → parseFieldDescriptor (T k).2.2.1 = some (xh_ty ci k)) (hkd : ∀ k, k < N → (∃ q, xh_ty ci k = .object q) ∨ (∃ q, xh_ty ci k = .array q) ∨ xh_ty ci k = .int ∨ xh_ty ci k = .boolean ∨ xh_ty ci k = .long) (hown : s.vm.findClass own = some m.cls) (hcl : (Cond.classLink own index C).before args s = true) (hinst : (Cond.instantiable C N).before args s = true) (hini : (Cond.initialized C).before args s = true)
    (hK : va_K D vwCl (xh_ts cy) s) (hat : xh_at D cy ad A h H) (hS : va_S A H0 H locs) (hA : ∀ q, H0.size ≤ q → A q) (hc : vwCl[ci]? = some (C, T, N)) (hN : N = xh_N ci) (hcells : cells + 1 ≤ R.cells) (hslots : slots + N ≤ R.slots) (hdg : decode cc pc = .ok (.new index, 3))
    (kk : ∀ (H1 : Heap), xh_at D cy ad A (xh_nw h (0, ci)) H1 → va_S A H0 H1 locs → W p l e R s m args below meth c H1 locs (cells + 1) (slots + N) Q (F0 m (pc + 3) ls (.ref (ad h.1.length) :: rest))) : W p l e R s m args below meth c H locs cells slots Q (F0 m pc ls rest) := by
  have hKn := hK.1 ci _ hc
  have h0 : ad h.1.length = H.size := hat.2.2 0
  rw [h0] at kk
  refine W.newcK hexec hb hown hcl hinst hini rfl hdg hcells hslots hKn.2.1 rfl fun H1 kC hkC e1 z1 o1 => ?_
  refine kk H1 (hat.new ?_ o1 z1 (hA _ hS.1)) ⟨Nat.le_trans hS.1 (by omega), fun x h1 h2 => (o1 x (Nat.lt_of_lt_of_le h1 hS.1)).trans (hS.2.1 x h1 h2), hS.2.2⟩
  refine ⟨_, hc, (u_born (xh_ty ci) hts hin hKn hkC e1 hty).to (fun j hj => ?_)⟩
  show defaultValue (xh_ty ci j) = vp_V ((List.range (xh_N ci)).map (fun k => xh_fv ad (xh_nw h (0, ci)) h.1.length (xh_ty ci k) k)) j
  rw [xh_dv ci j (hkd j hj) ad h (0, ci)]
  have : j < xh_N ci := by rw [← hN]; exact hj
  simp [vp_V, this]
theorem xa_newa (hexec : p.tables.exec = Jvm.exec) (hb : c.code = cc) {t : ArrayType} (harr : (Cond.arrayClass (newarray.typeOf t)).before args s = true) (ht : xa_k t ≤ 5) (hK : va_K D vwCl (xh_ts cy) s) (hat : xh_at D cy ad A h H) (hS : va_S A H0 H locs) (hA : ∀ q, H0.size ≤ q → A q)
    {z : Int32} (hz : ¬ z < 0) (hz2 : z.toNatClampNeg ≤ 1000000) (hcells : cells + 1 ≤ R.cells) (hslots : slots + z.toNatClampNeg ≤ R.slots) (hdg : decode cc pc = .ok (.newarray t, 2))
    (kk : ∀ (H1 : Heap), xh_at D cy ad A (xh_nw h (xa_k t, z.toNatClampNeg)) H1 → va_S A H0 H1 locs → W p l e R s m args below meth c H1 locs (cells + 1) (slots + z.toNatClampNeg) Q (F0 m (pc + 2) ls (.ref (ad h.1.length) :: rest))) : W p l e R s m args below meth c H locs cells slots Q (F0 m pc ls (.int z :: rest)) := by
  have h0 : ad h.1.length = H.size := hat.2.2 0
  rw [h0] at kk
  refine va_newaK hexec hb harr rfl hdg rfl hz rfl (by cases t <;> simp [newarray.typeOf, componentBytes] <;> omega) hcells hslots rfl fun H1 cA e1 z1 o1 hAr hNm => ?_
  refine kk H1 (hat.new ?_ o1 z1 (hA _ hS.1)) ⟨Nat.le_trans hS.1 (by omega), fun x h1 h2 => (o1 x (Nat.lt_of_lt_of_le h1 hS.1)).trans (hS.2.1 x h1 h2), hS.2.2⟩
  cases t with
  | int =>
    have : cA = cy 1 := Option.some.inj (hNm.symm.trans (hK.2 0 _ rfl).2)
    subst this
    show H1[H.size]? = some (vp_cell _ (_, .inl (xg 0 (xh_rs h.2.1 h.1.length) h.1.length)))
    rw [xh_rs_s, e1]; rfl
  | byte =>
    have : cA = cy 2 := Option.some.inj (hNm.symm.trans (hK.2 1 _ rfl).2)
    subst this
    show H1[H.size]? = some (vp_cell _ (_, .inl (xg 0 (xh_rs h.2.1 h.1.length) h.1.length)))
    rw [xh_rs_s, e1]; rfl
  | boolean =>
    have : cA = cy 3 := Option.some.inj (hNm.symm.trans (hK.2 2 _ rfl).2)
    subst this
    show H1[H.size]? = some (vp_cell _ (_, .inl (xg 0 (xh_rs h.2.1 h.1.length) h.1.length)))
    rw [xh_rs_s, e1]; rfl
  | long =>
    have : cA = cy 4 := Option.some.inj (hNm.symm.trans (hK.2 3 _ rfl).2)
    subst this
    show H1[H.size]? = some (vp_cell _ (_, .inr (.inl (xg 0 (xh_rs h.2.2.1 h.1.length) h.1.length))))
    rw [xh_rs_s, e1]; rfl
  | char => exact absurd ht (by decide)
  | float => exact absurd ht (by decide)
  | double => exact absurd ht (by decide)
  | short => exact absurd ht (by decide)
theorem xa_newq (hexec : p.tables.exec = Jvm.exec) (hb : c.code = cc) {own : String} {index : Nat} (hown : s.vm.findClass own = some m.cls) (hclink : (Cond.classLink own index RX7).before args s = true) (hover : (Cond.arrayOver (.object RX7)).before args s = true) (hK : va_K D vwCl (xh_ts cy) s) (hat : xh_at D cy ad A h H) (hS : va_S A H0 H locs) (hA : ∀ q, H0.size ≤ q → A q)
    {z : Int32} (hz : ¬ z < 0) (hz2 : z.toNatClampNeg ≤ 1000000) (hcells : cells + 1 ≤ R.cells) (hslots : slots + z.toNatClampNeg ≤ R.slots) (hdg : decode cc pc = .ok (.anewarray index, 3))
    (kk : ∀ (H1 : Heap), xh_at D cy ad A (xh_nw h (5, z.toNatClampNeg)) H1 → va_S A H0 H1 locs → W p l e R s m args below meth c H1 locs (cells + 1) (slots + z.toNatClampNeg) Q (F0 m (pc + 3) ls (.ref (ad h.1.length) :: rest))) : W p l e R s m args below meth c H locs cells slots Q (F0 m pc ls (.int z :: rest)) := by
  have h0 : ad h.1.length = H.size := hat.2.2 0
  rw [h0] at kk
  refine W.anew hexec hb hown hclink hover rfl hdg rfl hz (by omega) hcells hslots fun cA kA comp hNm hk1 hk2 hk3 => ?_
  have hcA : cA = cy 5 := by
    obtain ⟨_, _, _, _, _, h4⟩ := (hK.2 4 _ rfl).2
    exact Option.some.inj (hNm.symm.trans h4)
  subst hcA
  have o1 : ∀ q : Nat, q < H.size → (H.push ({ cls := cy 5, slots := Array.replicate z.toNatClampNeg .null, vm := .none } : Cell))[q]? = H[q]? := fun q hq => by rw [Array.getElem?_push, if_neg (Nat.ne_of_lt hq)]
  refine kk _ (hat.new ?_ o1 (by simp) (hA _ hS.1)) ⟨Nat.le_trans hS.1 (by simp), fun x h1 h2 => (o1 x (Nat.lt_of_lt_of_le h1 hS.1)).trans (hS.2.1 x h1 h2), hS.2.2⟩
  show (H.push _)[H.size]? = some (vp_cell (cy 5) (_, .inr (.inr (.inr (.inr (fun j => (xg none (xh_rs h.2.2.2 h.1.length) h.1.length j).map ad))))))
  rw [xh_rs_s, vp_cell_q, Array.getElem?_push, if_pos rfl, arrV_new]
  rfl
end XN
