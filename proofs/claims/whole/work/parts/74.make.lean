/-! MAKING CELLS: one behind another; cell i stands at ad i, the next one will stand at ad N -/
def ADN (ad : Nat → Nat) : Prop := ∀ i, ad (i + 1) = ad i + 1
def XA (U : State) : Prop := va_AO RX3 U ∧ va_Nw (.methodLinkNest RX8 9 yX7_init RX8) U ∧ va_Nw (.methodLinkNest RX8 18 yX2_init RX8) U ∧ va_Nw (.methodLinkNest RX8 49 yX1_init RX8) U
theorem XA.warm {s U : State} (hW : s.WarmedH U.vm) (h : XA s) : XA U := ⟨va_AO.moved hW.alike h.1, va_Nw.warmM hW h.2.1, va_Nw.warmM hW h.2.2.1, va_Nw.warmM hW h.2.2.2⟩
theorem XA.same {s U : State} (e : s.vm = U.vm) (h : XA s) : XA U := ⟨va_AO.moved (e ▸ Vm.Alike.refl s.vm) h.1, va_Nw.same rfl e h.2.1, va_Nw.same rfl e h.2.2.1, va_Nw.same rfl e h.2.2.2⟩
def Wn (g : Gx) (lo N : Nat) (ad : Nat → Nat) (F : Nat → va_E) (U : State) : Prop := Wd g lo N ad F U ∧ U.heap.size = ad N ∧ XA U
def Cn (g : Gx) (lo N : Nat) (ad : Nat → Nat) (F : Nat → va_E) (s : State) (H0 H : Heap) (locs : List Loc) : Prop := Cu g lo N ad F s H0 H locs ∧ H.size = ad N
def MN (l : Launch) (g : Gx) (lo N N2 : Nat) (ad : Nat → Nat) (y : MethodName) (ws : List Cond) (fr lc mc ms : Nat) (args : List Value) (F : Nat → va_E) (post : (Nat → va_E) → Prop) : Prop :=
  Met l y ws { frames := fr, cells := mc, slots := ms, locals := lc } (va_Pc args (Wn g lo N ad F)) (va_Qv post (fun F' t => Wd g lo N2 ad F' t ∧ t.heap.size = ad N2) (fun q => lo ≤ q)) mc ms (fun q => lo ≤ q)
theorem wn_blind {g : Gx} {lo N : Nat} {ad : Nat → Nat} {F : Nat → va_E} {av : List Value} : FrameBlind (va_Pc av (Wn g lo N ad F)) := fun a U g' mk q => by
  obtain ⟨q0, ⟨qK, qP, qD⟩, qz, qo⟩ := q
  exact ⟨q0, ⟨va_K.moved (u := U) (U := U.calling g' mk a) (Vm.Alike.refl U.vm) qK, qP, qD⟩, qz, XA.same (s := U) (U := U.calling g' mk a) rfl qo⟩
theorem wl_app {N : Nat} {ad : Nat → Nat} {F : Nat → va_E} (e : va_E) : wl N ad F ++ [(ad N, e)] = wl (N + 1) ad (va_up F N e) := by
  rw [wl_push]
  congr 1
  funext j
  by_cases h : j = N
  · subst h; rw [va_up_self]
  · rw [va_up_ne _ _ h]
theorem arr_same {s : State} {g : Gx} {t : Nat} {ty : FieldType} {cA : ClassId} (hK : va_K (gD g) vwCl (gT g) s) (ht : (gT g)[t]? = some (g.2.2 t, ty)) (hn : s.vm.findClass ("[" ++ ty.toString) = some cA) : cA = g.2.2 t := by
  have z : va_RA s (g.2.2 t) ty := (hK.2 t _ ht).2
  have e : s.vm.findClass ("[" ++ ty.toString) = some (g.2.2 t) := by
    cases ty with
    | object C =>
      obtain ⟨_, _, _, _, _, z⟩ := z
      exact z
    | _ => exact z
  exact Option.some.inj (hn.symm.trans e)
theorem enterN {y : MethodName} {ws ws' : List Cond} {rm : Room} {Qc : Array Value → State → Outcome → State → Prop} {mc ms : Nat} {free : Addr → Prop} {cc : ByteArray} {maxL : Nat} {ret : Option FieldType} {l : Launch} {g : Gx} {lo N : Nat} {ad : Nat → Nat} {F : Nat → va_E} {av : List Value}
    {own : String} (hy : plainFor y = true) (ho : y.cls = own) (hw : ws = Cond.code y cc maxL ret :: ws') (hn : (lg_sl av).length ≤ maxL) (hlo : lo ≤ ad N)
    (body : ∀ p e s m below meth c, Bx p s m meth c cc maxL ret own ws av.toArray → (y.name = "<init>" → meth.name = "<init>") → Cn g lo N ad F s s.heap s.heap [] → XA s → lo ≤ s.heap.size → ∀ ls, lv_has ls maxL (lv_args 0 av) →
      W p l e rm s m av.toArray below meth c s.heap [] 0 0 (MQ below Qc av.toArray s mc ms free) (F0 m 0 ls [])) : Met l y ws rm (va_Pc av (Wn g lo N ad F)) Qc mc ms free := by
  refine met_ofW (cc := cc) (maxL := maxL) (ret := ret) hy hw ?_
  intro p e s m args below meth c s₁ B hml hv
  obtain ⟨rfl, ⟨hK, hP, hD⟩, hz, ho2⟩ := hv
  rw [lg_entry_eq]
  refine body p e s m below meth c ⟨B.exec, B.bytes, hml, ho ▸ findClass_of_methodNamed B.named, atoms_spec (ws := ws) B.pre, B.returns, B.notSynchronized⟩ (fun h => ?_) ⟨⟨hK, hP, hD, va_S.rf⟩, hz⟩ ho2 (by rw [hz]; exact hlo) _ (lv_entry av hn)
  rw [(name_of_methodNamed B.named B.method).1]; exact h
section MAKES
variable {p : Program} {l : Launch} {e : Env} {R : Room} {s : State} {m : MethodId} {args : Array Value} {below : List Frame} {meth : Method} {c : Code} {H : Heap} {locs : List Loc} {cells slots : Nat} {Q : State → Prop}
variable {cc : ByteArray} {pc : Nat} {ls : Array Slot} {rest : List Value} {nL : Nat} {ret : Option FieldType} {own : String} {Ts : List Cond}
variable {g : Gx} {lo N : Nat} {ad : Nat → Nat} {F : Nat → va_E} {H0 : Heap}
/-- a field of an object that stands; where it lies, all else is as it was -/
theorem r_cpn (B : Bx p s m meth c cc nL ret own Ts args) (hC : Cn g lo N ad F s H0 H locs) {i : Nat} (hi : i < N) {ci : Nat} {fs : List Value} (he : F i = .inr (ci, fs)) {C : String} {T : u_T} {n : Nat} (ty0 : Nat → FieldType) (hty : ∀ k, k < n → parseFieldDescriptor (T k).2.2.1 = some (ty0 k)) (hnm : ∀ a, a < n → ∀ b, b < n → a ≠ b → (T a).2.1 ≠ (T b).2.1) (hc : vwCl[ci]? = some (C, T, n)) (hin : ∀ w ∈ u_ws C T n, w ∈ Ts) (k : Nat) (hk : k < n) {index : Nat} (hlk : Cond.fieldLink own index C (T k).2.1 (T k).2.2.1 ∈ Ts) (hCk : (T k).1 = C) (hfin : (T k).2.2.2 = false) {v : Value} (hn : narrow (ty0 k) v = v) (hfit : fits (ty0 k) v = true) (hl : k < fs.length) (hdg : decode cc pc = .ok (.putfield index, 3))
    (kk : ∀ (H1 : Heap) (locs1 : List Loc), Cn g lo N ad (va_up F i (.inr (ci, fs.set k v))) s H0 H1 locs1 → W p l e R s m args below meth c H1 locs1 cells slots Q (F0 m (pc + 3) ls rest)) : W p l e R s m args below meth c H locs cells slots Q (F0 m pc ls (v :: .ref (ad i) :: rest)) := by
  obtain ⟨⟨hK, hP, hD, hS⟩, hz⟩ := hC
  obtain ⟨hx, hb, -, hown, hts, -⟩ := B
  have hw : (wl N ad F)[i]? = some (ad i, .inr (ci, fs)) := by rw [wl_at hi, he]
  have hap := va_apart (own := own) hts hin ty0 hty hnm hK hc
  obtain ⟨r, hr0, cell, q1, q2, q3, q4⟩ := hP i _ hw
  obtain rfl : r = (C, T, n) := Option.some.inj (hr0.symm.trans hc)
  obtain ⟨hSl, hfc, kC, hkC, hkind⟩ := hK.1 ci _ hc
  obtain ⟨cf, kf, fi, f, hfi, hsl⟩ := hSl k hk
  have hlay := hts _ (hin _ (u_in_lay hk))
  unfold u_lay at hlay
  rw [if_neg (by rw [hfin]; decide)] at hlay
  refine W.putK hx hb (f := f) ⟨hown, hts _ hlk, ⟨_, _, _, (by have z := hfi; rw [hCk] at z; exact z)⟩, (u_facts hfc hkC (u_lays hts hin hk) hfi).1⟩ (by rw [q2]; exact u_store hfc hkC hkind hlay hfi (hty k hk) hn hfit) q1 q3 (by rw [hsl]; exact k2_hasslot (q4 k hk)) rfl rfl hdg fun H' e1 e2 e3 => ?_
  rw [hsl] at e1 ⊢
  refine kk H' _ ⟨⟨hK, ?_, ?_, hS.put e2 e3 (hD.2 i _ hw)⟩, e2.trans hz⟩
  · rw [← wl_set hi]
    exact hP.set hD hw ⟨_, hc, t_OB.to (V := updV (vp_V fs) k v) ⟨_, e1, q2, q3, t_set q4 hap hk v⟩ (fun j _ => vp_updV_set hl v j)⟩ e3
  · rw [← wl_set hi]; exact hD.set hw
theorem r_cpf (B : Bx p s m meth c cc nL ret own Ts args) (hin2 : meth.name = "<init>") (hC : Cn g lo N ad F s H0 H locs) {i : Nat} (hi : i < N) {ci : Nat} {fs : List Value} (he : F i = .inr (ci, fs)) {T : u_T} {n : Nat} (ty0 : Nat → FieldType) (hty : ∀ k, k < n → parseFieldDescriptor (T k).2.2.1 = some (ty0 k)) (hnm : ∀ a, a < n → ∀ b, b < n → a ≠ b → (T a).2.1 ≠ (T b).2.1) (hc : vwCl[ci]? = some (own, T, n)) (hin : ∀ w ∈ u_ws own T n, w ∈ Ts) (k : Nat) (hk : k < n) {index : Nat} (hlk : Cond.fieldLink own index own (T k).2.1 (T k).2.2.1 ∈ Ts) (hCk : (T k).1 = own) (hfin : (T k).2.2.2 = true) {v : Value} (hn : narrow (ty0 k) v = v) (hfit : fits (ty0 k) v = true) (hl : k < fs.length) (hdg : decode cc pc = .ok (.putfield index, 3))
    (kk : ∀ (H1 : Heap) (locs1 : List Loc), Cn g lo N ad (va_up F i (.inr (ci, fs.set k v))) s H0 H1 locs1 → W p l e R s m args below meth c H1 locs1 cells slots Q (F0 m (pc + 3) ls rest)) : W p l e R s m args below meth c H locs cells slots Q (F0 m pc ls (v :: .ref (ad i) :: rest)) := by
  obtain ⟨⟨hK, hP, hD, hS⟩, hz⟩ := hC
  obtain ⟨hx, hb, -, hown, hts, -⟩ := B
  have hw : (wl N ad F)[i]? = some (ad i, .inr (ci, fs)) := by rw [wl_at hi, he]
  have hap := va_apart (own := own) hts hin ty0 hty hnm hK hc
  obtain ⟨r, hr0, cell, q1, q2, q3, q4⟩ := hP i _ hw
  obtain rfl : r = (own, T, n) := Option.some.inj (hr0.symm.trans hc)
  obtain ⟨hSl, hfc, kC, hkC, hkind⟩ := hK.1 ci _ hc
  obtain ⟨cf, kf, fi, f, hfi, hsl⟩ := hSl k hk
  have hlay := hts _ (hin _ (u_in_lay hk))
  unfold u_lay at hlay
  rw [if_pos hfin] at hlay
  have hcf : m.cls = cf := by
    obtain ⟨_, _, c', _, _, _, -, -, hf', -, -, -, hown2, -⟩ := Cond.laysFinal_spec hlay
    have z := hfi.symm.trans hf'
    simp at z
    rw [hCk] at hown2
    rw [z.1]; exact Option.some.inj (hown.symm.trans hown2)
  refine W.putFinK hx hb hown (hts _ hlk) (by have z := hfi; rw [hCk] at z; exact z) (u_facts hfc hkC (u_lays hts hin hk) hfi).1 hcf hin2 (by rw [q2]; exact u_fits hfc hkC hkind (Or.inr hlay) hfi (hty k hk) hn hfit) q1 q3 (by rw [hsl]; exact k2_hasslot (q4 k hk)) rfl rfl hdg fun H' e1 e2 e3 => ?_
  rw [hsl] at e1 ⊢
  refine kk H' _ ⟨⟨hK, ?_, ?_, hS.put e2 e3 (hD.2 i _ hw)⟩, e2.trans hz⟩
  · rw [← wl_set hi]
    exact hP.set hD hw ⟨_, hc, t_OB.to (V := updV (vp_V fs) k v) ⟨_, e1, q2, q3, t_set q4 hap hk v⟩ (fun j _ => vp_updV_set hl v j)⟩ e3
  · rw [← wl_set hi]; exact hD.set hw
theorem r_can (B : Bx p s m meth c cc nL ret own Ts args) (hC : Cn g lo N ad F s H0 H locs) {i : Nat} (hi : i < N) {n : Nat} {f : Nat → Int32} (he : F i = .inl (g.2.2 0, n, .inl f)) {j : Nat} (hj : j < n) (hn : n < 2 ^ 31) {x : Int32} (hdg : decode cc pc = .ok (.iastore, 1))
    (kk : ∀ (H1 : Heap) (locs1 : List Loc), Cn g lo N ad (va_up F i (.inl (g.2.2 0, n, .inl (upd f j x)))) s H0 H1 locs1 → W p l e R s m args below meth c H1 locs1 cells slots Q (F0 m (pc + 1) ls rest)) : W p l e R s m args below meth c H locs cells slots Q (F0 m pc ls (.int x :: .int (nI j) :: .ref (ad i) :: rest)) := by
  obtain ⟨⟨hK, hP, hD, hS⟩, hz⟩ := hC
  have hw : (wl N ad F)[i]? = some (ad i, .inl (g.2.2 0, n, .inl f)) := by rw [wl_at hi, he]
  have hcl : (nI j).toNatClampNeg = j := nI_clamp (Nat.lt_trans hj hn)
  refine W.iast B.1 B.2.1 (hP i _ hw) ((hK.2 0 (g.2.2 0, .int) rfl).1 n (fun j => .int (f j))) (fun q => by cases q) (by show ¬ (nI j < 0 ∨ (arrV _ _ _).slots.size ≤ _); rw [arrV_size]; exact vp_in_nI hj hn) rfl rfl hdg fun H1 e1 e2 e3 => ?_
  rw [hcl] at e1 ⊢
  refine kk H1 _ ⟨⟨hK, ?_, ?_, hS.put e2 e3 (hD.2 i _ hw)⟩, e2.trans hz⟩
  · rw [← wl_set hi]
    refine hP.set hD hw ?_ e3
    show H1[ad i]? = some (vp_cell _ _)
    rw [e1, vp_cell_i, vp_cell_i, arrV_store]
    congr 2
    funext q
    by_cases hq : q = j
    · subst hq; simp [updV, upd]
    · simp [updV, upd, hq]
  · rw [← wl_set hi]; exact hD.set hw
/-- a Load into a row of Loads -/
theorem r_caq (B : Bx p s m meth c cc nL ret own Ts args) (hC : Cn g lo N ad F s H0 H locs) {i : Nat} (hi : i < N) {n : Nat} {f : Nat → Option Nat} (he : F i = .inl (g.2.2 4, n, .inr (.inr (.inr (.inr f))))) {j : Nat} (hj : j < n) (hn : n < 2 ^ 31) {b : Nat} (hb : b < N) {vs : List Value} (hv : F b = .inr (3, vs)) (hdg : decode cc pc = .ok (.aastore, 1))
    (kk : ∀ (H1 : Heap) (locs1 : List Loc), Cn g lo N ad (va_up F i (.inl (g.2.2 4, n, .inr (.inr (.inr (.inr (va_up f j (some (ad b)))))))))  s H0 H1 locs1 → W p l e R s m args below meth c H1 locs1 cells slots Q (F0 m (pc + 1) ls rest)) : W p l e R s m args below meth c H locs cells slots Q (F0 m pc ls (.ref (ad b) :: .int (nI j) :: .ref (ad i) :: rest)) := by
  obtain ⟨⟨hK, hP, hD, hS⟩, hz⟩ := hC
  have hw : (wl N ad F)[i]? = some (ad i, .inl (g.2.2 4, n, .inr (.inr (.inr (.inr f))))) := by rw [wl_at hi, he]
  have hwb : (wl N ad F)[b]? = some (ad b, .inr (3, vs)) := by rw [wl_at hb, hv]
  have hcl : (nI j).toNatClampNeg = j := nI_clamp (Nat.lt_trans hj hn)
  have hin := vp_in_nI hj hn
  obtain ⟨-, -, cellV, g1, g2, g3, -⟩ := hP b _ hwb
  have hcls := (hK.1 3 (RX3, TX3, 6) rfl).2
  obtain ⟨kA, comp, k1, k2, k3, -⟩ := (hK.2 4 (g.2.2 4, .object "ShipFromItself$Load") rfl).2
  obtain rfl : comp = (gD g).1 3 := Option.some.inj (k3.symm.trans hcls.1)
  obtain ⟨kC, hkC, -⟩ := id hcls.2
  refine W.aast B.1 B.2.1 (hP i _ hw) (fun q h => by cases h) (fun h => by cases h) k1 k2 rfl hkC ⟨fun q => hin (Or.inl q), by show _ < (arrV _ _ _).slots.size; rw [arrV_size, hcl]; exact hj⟩ g1 (fun q h => by rw [g3] at h; cases h) (by rw [g2]; exact hkC) (by rw [g2]; exact va_assign hcls) rfl rfl hdg fun H1 e1 e2 e3 => ?_
  rw [hcl] at e1 ⊢
  refine kk H1 _ ⟨⟨hK, ?_, ?_, hS.put e2 e3 (hD.2 i _ hw)⟩, e2.trans hz⟩
  · rw [← wl_set hi]
    refine hP.set hD hw ?_ e3
    show H1[ad i]? = some (vp_cell _ _)
    rw [e1, vp_cell_q, vp_cell_q, arrV_store]
    congr 2
    funext q
    by_cases hq : q = j
    · subst hq; simp [updV, va_up, va_rf]
    · simp [updV, va_up, hq]
  · rw [← wl_set hi]; exact hD.set hw
/-- new cells -/
theorem cn_push (hAd : ADN ad) (hlo : lo ≤ H0.size) {H1 : Heap} {en : va_E} (hC : Cn g lo N ad F s H0 H locs) (z1 : H1.size = H.size + 1) (o1 : ∀ q, q < H.size → H1[q]? = H[q]?) (hat : va_at (gD g) vwCl (ad N, en) H1) : Cn g lo (N + 1) ad (va_up F N en) s H0 H1 locs := by
  obtain ⟨⟨hK, hP, hD, hS⟩, hz⟩ := hC
  refine ⟨⟨hK, ?_, ?_, ⟨Nat.le_trans hS.1 (by omega), fun x h1 h2 => (o1 x (Nat.lt_of_lt_of_le h1 hS.1)).trans (hS.2.1 x h1 h2), hS.2.2⟩⟩, by rw [z1, hz, hAd N]⟩
  · rw [← wl_app]
    refine (hP.kept (fun k x hx => o1 x.1 (hP k x hx).lt)).app (fun k x hx => ?_)
    have hz2 : k < 1 := (List.getElem?_eq_some_iff.mp hx).1
    obtain rfl : k = 0 := by omega
    cases hx
    exact hat
  · rw [← wl_app]
    exact hD.push hP hz.symm (by show lo ≤ ad N; rw [← hz]; exact Nat.le_trans hlo hS.1)
theorem r_nw (B : Bx p s m meth c cc nL ret own Ts args) (hAd : ADN ad) (hlo : lo ≤ H0.size) (hC : Cn g lo N ad F s H0 H locs) (ci : Nat) {C : String} {T : u_T} {n index : Nat} (hc : vwCl[ci]? = some (C, T, n)) (hin : ∀ w ∈ u_ws C T n, w ∈ Ts) (ty : Nat → FieldType) (hty : ∀ k, k < n → parseFieldDescriptor (T k).2.2.1 = some (ty k)) (hcl : Cond.classLink own index C ∈ Ts) (hinst : Cond.instantiable C n ∈ Ts) (hini : Cond.initialized C ∈ Ts) {fs : List Value} (hfs : ∀ j, j < n → defaultValue (ty j) = vp_V fs j) (hcells : cells + 1 ≤ R.cells) (hslots : slots + n ≤ R.slots) (hdg : decode cc pc = .ok (.new index, 3))
    (kk : ∀ (H1 : Heap), Cn g lo (N + 1) ad (va_up F N (.inr (ci, fs))) s H0 H1 locs → W p l e R s m args below meth c H1 locs (cells + 1) (slots + n) Q (F0 m (pc + 3) ls (.ref (ad N) :: rest))) : W p l e R s m args below meth c H locs cells slots Q (F0 m pc ls rest) := by
  obtain ⟨hx, hb, -, hown, hts, -⟩ := B
  have hKn := hC.1.1.1 ci _ hc
  refine W.newcK hx hb hown (hts _ hcl) (hts _ hinst) (hts _ hini) rfl hdg hcells hslots hKn.2.1 hC.2 fun H1 kC hkC e1 z1 o1 => kk H1 (cn_push hAd hlo hC (by rw [z1, hC.2]) (fun q hq => o1 q (by rw [← hC.2]; exact hq)) ?_)
  exact ⟨_, hc, (u_born ty hts hin hKn hkC e1 hty).to hfs⟩
theorem r_na (B : Bx p s m meth c cc nL ret own Ts args) (hAd : ADN ad) (hlo : lo ≤ H0.size) (hC : Cn g lo N ad F s H0 H locs) {atype : ArrayType} {ty : FieldType} (t : Nat) (hty : newarray.typeOf atype = ty) (harr : Cond.arrayClass ty ∈ Ts) (ht : (gT g)[t]? = some (g.2.2 t, ty)) {n : Nat} {a0 : vp_A} (ha : ∀ cA : ClassId, vp_cell cA a0 = arrV cA n (fun _ => defaultValue ty)) (hn : n < 2 ^ 20) (hbytes : componentBytes ty ≤ 8) (hcells : cells + 1 ≤ R.cells) (hslots : slots + n ≤ R.slots) (hdg : decode cc pc = .ok (.newarray atype, 2))
    (kk : ∀ (H1 : Heap), Cn g lo (N + 1) ad (va_up F N (.inl (g.2.2 t, a0))) s H0 H1 locs → W p l e R s m args below meth c H1 locs (cells + 1) (slots + n) Q (F0 m (pc + 2) ls (.ref (ad N) :: rest))) : W p l e R s m args below meth c H locs cells slots Q (F0 m pc ls (.int (nI n) :: rest)) := by
  obtain ⟨hx, hb, -, hown, hts, -⟩ := B
  subst hty
  refine va_newaK hx hb (hts _ harr) rfl hdg rfl (nI_pos (by omega)) (nI_clamp (by omega)) (by have := Nat.mul_le_mul (show n ≤ 1048576 by omega) hbytes; omega) hcells hslots hC.2 fun H1 cA e1 z1 o1 hAr hNm => kk H1 (cn_push hAd hlo hC (by rw [z1, hC.2]) (fun q hq => o1 q (by rw [← hC.2]; exact hq)) ?_)
  rw [← arr_same hC.1.1 ht hNm]
  show H1[ad N]? = some (vp_cell _ _)
  rw [ha]; exact e1
theorem r_nq (B : Bx p s m meth c cc nL ret own Ts args) (hAd : ADN ad) (hlo : lo ≤ H0.size) (hover : va_AO RX3 s) (hC : Cn g lo N ad F s H0 H locs) {index : Nat} (hcl : Cond.classLink own index RX3 ∈ Ts) {n : Nat} (hn : n < 2 ^ 20) (hcells : cells + 1 ≤ R.cells) (hslots : slots + n ≤ R.slots) (hdg : decode cc pc = .ok (.anewarray index, 3))
    (kk : ∀ (H1 : Heap), Cn g lo (N + 1) ad (va_up F N (.inl (g.2.2 4, n, .inr (.inr (.inr (.inr (fun _ => none))))))) s H0 H1 locs → W p l e R s m args below meth c H1 locs (cells + 1) (slots + n) Q (F0 m (pc + 3) ls (.ref (ad N) :: rest))) : W p l e R s m args below meth c H locs cells slots Q (F0 m pc ls (.int (nI n) :: rest)) := by
  obtain ⟨hx, hb, -, hown, hts, -⟩ := B
  have hnc : (nI n).toNatClampNeg = n := nI_clamp (by omega)
  have hz := hC.2
  refine W.anew hx hb hown (hts _ hcl) (va_AO.use hover) rfl hdg rfl (nI_pos (by omega)) (by rw [hnc]; omega) hcells (by rw [hnc]; exact hslots) fun cA kA comp f1 f2 f3 f4 => ?_
  rw [hnc, hz]
  generalize hH1 : H.push ({ cls := cA, slots := Array.replicate n .null, vm := .none } : Cell) = H1
  have e1 : H1[ad N]? = some (arrV cA n (fun _ => .null)) := by rw [← hH1, ← hz, Array.getElem?_push_size, ← arrV_new]
  refine kk H1 (cn_push hAd hlo hC (by rw [← hH1, Array.size_push]) (fun q hq => by rw [← hH1, Array.getElem?_push, if_neg (Nat.ne_of_lt hq)]) ?_)
  rw [← arr_same (t := 4) (ty := .object "ShipFromItself$Load") hC.1.1 rfl f1]
  show H1[ad N]? = some (vp_cell _ _)
  rw [vp_cell_q]; exact e1
theorem r_oi (B : Bx p s m meth c cc nL ret own Ts args) (hl : ls.size = nL) {index : Nat} {a : Nat} (h1 : Cond.methodLink own index objectInit ∈ Ts) (h2 : Cond.instanceMethod objectInit ∈ Ts) (h3 : Cond.code objectInit ⟨#[0xb1]⟩ 1 none ∈ Ts) (hdg : decode cc pc = .ok (.invokespecial index, 3)) (hframes : 1 ≤ R.frames) (hlocals : (rest.map fun v => v.category).sum + 12 ≤ R.locals)
    (kk : W p l e R s m args below meth c H locs cells slots Q (F0 m (pc + 3) ls rest)) : W p l e R s m args below meth c H locs cells slots Q (F0 m pc ls (.ref a :: rest)) := by
  obtain ⟨hx, hb, hml, hown, hts, -⟩ := B
  exact W.objInit hx hb hown (hts _ h1) (hts _ h2) (hts _ h3) rfl (hl.trans hml.symm) rfl hdg hframes (by show 2 * 0 + _ + 12 ≤ _; omega) kk
variable {y : MethodName} {bytes : ByteArray} {maxL n index fr lc mc ms N2 : Nat} {ws ws' : List Cond} {As : List Value} {st : List Value}
theorem r_ci (B : Bx p s m meth c cc nL ret own Ts args) (hl : ls.size = nL) (hover : XA s) (hC : Cn g lo N ad F s H0 H locs) {i : Nat} {post : (Nat → va_E) → Prop} (hM : MN l g lo N N2 ad y ws fr lc mc ms (.ref (ad i) :: As) F post) (hG : GoodIn Ts ws) (hw : ws = Cond.code y bytes maxL none :: ws') (hini : Cond.initialized y.cls ∈ Ts) (hln : Cond.methodLink own index y ∈ Ts) (hinm : Cond.instanceMethod y ∈ Ts) (hy1 : y.name = "<init>") (hAn : As.length = n) (hd : y.cls ≠ "java/lang/invoke/MethodHandle" ∧ y.cls ≠ "java/lang/invoke/VarHandle" ∧ (parseMethodDescriptor y.desc).map (fun d => d.parameters.length) = some n) (hR : fr + 1 ≤ R.frames ∧ 8 + (maxL + 11) + lc ≤ R.locals) (hcs : cells + mc ≤ R.cells ∧ slots + ms ≤ R.slots) (hst : st = As.reverse ++ .ref (ad i) :: rest) (hr : (rest.map fun v => v.category).sum ≤ 8) (hdg : decode cc pc = .ok (.invokespecial index, 3))
    (kk : ∀ (F1 : Nat → va_E) (H1 : Heap) (locs1 : List Loc), post F1 → Cn g lo N2 ad F1 s H0 H1 locs1 → W p l e R s m args below meth c H1 locs1 (cells + mc) (slots + ms) Q (F0 m (pc + 3) ls rest)) : W p l e R s m args below meth c H locs cells slots Q (F0 m pc ls st) := by
  obtain ⟨⟨hK, hP, hD, hS⟩, hz⟩ := hC
  obtain ⟨hx, hb, hml, hown, hts, -⟩ := B
  refine va_callv (va_runI (As := As) (rest := rest) ⟨hx, hb, hml, hown, hts⟩ hM (cwI n hts hG hw rfl rfl (hts _ hini) (hts _ hln) (hts _ hinm) hy1 hd hR) ⟨wn_blind, fun U hU hW => ⟨rfl, ⟨va_K.moved hW.alike hK, by rw [hU]; exact hP, hD⟩, by rw [hU]; exact hz, XA.warm hW hover⟩⟩ rfl hAn hl hst (lv_room hr) hdg hcs) hS (fun q _ h => h) (fun q h => h) (fun u t H1 locs1 ht hvm hw2 hB hz1 hk1 hS => ?_)
  obtain ⟨⟨hK1, hP1, hD1⟩, hz2⟩ := hB
  rw [ht] at hP1 hz2
  exact kk u H1 locs1 hw2 ⟨⟨hK, hP1, hD1, hS⟩, hz2⟩
theorem r_eN {post : (Nat → va_E) → Prop} (B : Bx p s m meth c cc nL none own Ts args) (hC : Cn g lo N ad F s s.heap H locs) (hp : post F) (hdg : decode cc pc = .ok (.return_, 1)) :
    W p l e R s m args below meth c H locs mc ms (MQ below (va_Qv post (fun F' t => Wd g lo N ad F' t ∧ t.heap.size = ad N) (fun q => lo ≤ q)) args s mc ms (fun q => lo ≤ q)) (F0 m pc ls []) := by
  obtain ⟨⟨hK, hP, hD, hS⟩, hz⟩ := hC
  obtain ⟨hx, hb, hml, hown, hts, hr, hlocks⟩ := B
  exact W.vret hx hb hr (fun t ht hW => ⟨⟨F, rfl, hp, ⟨va_K.moved hW.alike hK, by rw [ht]; exact hP, hD⟩, by rw [ht]; exact hz⟩, hS.F ht⟩) hS.2.2 hdg
/-- the private constructors of nest mates -/
theorem r_cin {host : String} (B : Bx p s m meth c cc nL ret own Ts args) (hl : ls.size = nL) (hover : XA s) (hC : Cn g lo N ad F s H0 H locs) {i : Nat} {post : (Nat → va_E) → Prop} (hM : MN l g lo N N2 ad y ws fr lc mc ms (.ref (ad i) :: As) F post) (hG : GoodIn Ts ws) (hw : ws = Cond.code y bytes maxL none :: ws') (hini : Cond.initialized y.cls ∈ Ts) (hln : va_Nw (.methodLinkNest own index y host) s) (hinm : Cond.instanceMethod y ∈ Ts) (hy1 : y.name = "<init>") (hAn : As.length = n) (hd : y.cls ≠ "java/lang/invoke/MethodHandle" ∧ y.cls ≠ "java/lang/invoke/VarHandle" ∧ (parseMethodDescriptor y.desc).map (fun d => d.parameters.length) = some n) (hR : fr + 1 ≤ R.frames ∧ 8 + (maxL + 11) + lc ≤ R.locals) (hcs : cells + mc ≤ R.cells ∧ slots + ms ≤ R.slots) (hst : st = As.reverse ++ .ref (ad i) :: rest) (hr : (rest.map fun v => v.category).sum ≤ 8) (hdg : decode cc pc = .ok (.invokespecial index, 3))
    (kk : ∀ (F1 : Nat → va_E) (H1 : Heap) (locs1 : List Loc), post F1 → Cn g lo N2 ad F1 s H0 H1 locs1 → W p l e R s m args below meth c H1 locs1 (cells + mc) (slots + ms) Q (F0 m (pc + 3) ls rest)) : W p l e R s m args below meth c H locs cells slots Q (F0 m pc ls st) := by
  obtain ⟨⟨hK, hP, hD, hS⟩, hz⟩ := hC
  obtain ⟨hx, hb, hml, hown, hts, -⟩ := B
  refine va_callv (va_runIN (As := As) (rest := rest) (host := host) ⟨hx, hb, hml, hown, hts⟩ hM ⟨va_cnB n hts hG hw rfl rfl hln (hts _ hini) hd hR, hy1, hts _ hinm⟩ ⟨wn_blind, fun U hU hW => ⟨rfl, ⟨va_K.moved hW.alike hK, by rw [hU]; exact hP, hD⟩, by rw [hU]; exact hz, XA.warm hW hover⟩⟩ rfl hAn hl hst (lv_room hr) hdg hcs) hS (fun q _ h => h) (fun q h => h) (fun u t H1 locs1 ht hvm hw2 hB hz1 hk1 hS => ?_)
  obtain ⟨⟨hK1, hP1, hD1⟩, hz2⟩ := hB
  rw [ht] at hP1 hz2
  exact kk u H1 locs1 hw2 ⟨⟨hK, hP1, hD1, hS⟩, hz2⟩
end MAKES
