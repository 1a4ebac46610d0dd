/-! THE WORLD BY NUMBERED CELLS: cell i stands at the address ad i and holds F i; the list of all N cells is the world of every method (no frame is cut out: what a method changes, it says of F) -/
abbrev Gx : Type := (Nat → ClassId) × (Nat → Nat → Nat) × (Nat → ClassId)
def gD (g : Gx) : va_G := (g.1, g.2.1)
def gT (g : Gx) : List (ClassId × FieldType) := [(g.2.2 0, .int), (g.2.2 1, .byte), (g.2.2 2, .long), (g.2.2 3, .boolean), (g.2.2 4, .object "ShipFromItself$Load")]
def wl (N : Nat) (ad : Nat → Nat) (F : Nat → va_E) : va_W := (List.range N).map (fun i => (ad i, F i))
theorem wl_at {N : Nat} {ad : Nat → Nat} {F : Nat → va_E} {i : Nat} (h : i < N) : (wl N ad F)[i]? = some (ad i, F i) := by
  simp [wl, h]
theorem wl_set {N : Nat} {ad : Nat → Nat} {F : Nat → va_E} {i : Nat} (h : i < N) (e : va_E) : (wl N ad F).set i (ad i, e) = wl N ad (va_up F i e) := by
  apply List.ext_getElem?
  intro j
  by_cases hj : j = i
  · subst hj
    rw [List.getElem?_set_self (by simp [wl, h])]
    simp [wl, h, va_up]
  · rw [List.getElem?_set_ne (Ne.symm hj)]
    by_cases hn : j < N
    · simp [wl, hn, va_up, hj]
    · simp [wl, hn]
theorem wl_push {N : Nat} {ad : Nat → Nat} {F : Nat → va_E} (q : Nat) (e : va_E) : wl N ad F ++ [(q, e)] = wl (N + 1) (va_up ad N q) (va_up F N e) := by
  apply List.ext_getElem?
  intro j
  by_cases hj : j < N
  · rw [List.getElem?_append_left (by simp [wl, hj])]
    have h1 : j < N + 1 := by omega
    have h2 : j ≠ N := by omega
    simp [wl, hj, h1, va_up, h2]
  · rw [List.getElem?_append_right (by simp [wl]; omega)]
    by_cases h2 : j = N
    · subst h2
      simp [wl, va_up]
    · have h3 : ¬ j < N + 1 := by omega
      have h4 : j - N ≠ 0 := by omega
      simp [wl, h3]
      omega
/-- the world at a state; and along a walk -/
def Wd (g : Gx) (lo N : Nat) (ad : Nat → Nat) (F : Nat → va_E) (U : State) : Prop := va_K (gD g) vwCl (gT g) U ∧ va_P (gD g) vwCl (wl N ad F) U.heap ∧ va_D (fun q => lo ≤ q) (wl N ad F)
def Cu (g : Gx) (lo N : Nat) (ad : Nat → Nat) (F : Nat → va_E) (s : State) (H0 H : Heap) (locs : List Loc) : Prop := va_K (gD g) vwCl (gT g) s ∧ va_P (gD g) vwCl (wl N ad F) H ∧ va_D (fun q => lo ≤ q) (wl N ad F) ∧ va_S (fun q => lo ≤ q) H0 H locs
/-- a method's frame: the machine, its code, the tables' words -/
def Bx (p : Program) (s : State) (m : MethodId) (meth : Method) (c : Code) (cc : ByteArray) (nL : Nat) (ret : Option FieldType) (own : String) (ws : List Cond) (args : Array Value) : Prop :=
  p.tables.exec = Jvm.exec ∧ c.code = cc ∧ c.maxLocals = nL ∧ s.vm.findClass own = some m.cls ∧ (∀ w ∈ ws, w.before args s = true) ∧ meth.sig.returnType = ret ∧ meth.locks = false
/-- contracts of methods that make no cell: int, long, boolean or void -/
def MI (l : Launch) (g : Gx) (lo N : Nat) (ad : Nat → Nat) (y : MethodName) (ws : List Cond) (fr lc : Nat) (args : List Value) (F : Nat → va_E) (post : Int32 → (Nat → va_E) → Prop) : Prop :=
  Met l y ws { frames := fr, cells := 0, slots := 0, locals := lc } (va_Pc args (Wd g lo N ad F)) (va_Qi post (fun F' t => Wd g lo N ad F' t) (fun q => lo ≤ q)) 0 0 (fun q => lo ≤ q)
def ML (l : Launch) (g : Gx) (lo N : Nat) (ad : Nat → Nat) (y : MethodName) (ws : List Cond) (fr lc : Nat) (args : List Value) (F : Nat → va_E) (post : Int64 → (Nat → va_E) → Prop) : Prop :=
  Met l y ws { frames := fr, cells := 0, slots := 0, locals := lc } (va_Pc args (Wd g lo N ad F)) (va_Ql post (fun F' t => Wd g lo N ad F' t) (fun q => lo ≤ q)) 0 0 (fun q => lo ≤ q)
def MV (l : Launch) (g : Gx) (lo N : Nat) (ad : Nat → Nat) (y : MethodName) (ws : List Cond) (fr lc : Nat) (args : List Value) (F : Nat → va_E) (post : (Nat → va_E) → Prop) : Prop :=
  Met l y ws { frames := fr, cells := 0, slots := 0, locals := lc } (va_Pc args (Wd g lo N ad F)) (va_Qv post (fun F' t => Wd g lo N ad F' t) (fun q => lo ≤ q)) 0 0 (fun q => lo ≤ q)
/-- an answer that is the cell number of an object -/
def MR (l : Launch) (g : Gx) (lo N : Nat) (ad : Nat → Nat) (y : MethodName) (ws : List Cond) (fr lc : Nat) (args : List Value) (F : Nat → va_E) (i : Nat) : Prop :=
  Met l y ws { frames := fr, cells := 0, slots := 0, locals := lc } (va_Pc args (Wd g lo N ad F)) (va_Qr (fun F' : Nat → va_E => F' = F) (fun F' a t => a = ad i ∧ Wd g lo N ad F' t) (fun q => lo ≤ q)) 0 0 (fun q => lo ≤ q)
theorem wd_blind {g : Gx} {lo N : Nat} {ad : Nat → Nat} {F : Nat → va_E} {av : List Value} : FrameBlind (va_Pc av (Wd g lo N ad F)) := fun a U g' mk q => by
  obtain ⟨q0, qK, qP, qD⟩ := q
  exact ⟨q0, va_K.moved (u := U) (U := U.calling g' mk a) (Vm.Alike.refl U.vm) qK, qP, qD⟩
theorem met_ofW {y : MethodName} {ws ws' : List Cond} {rm : Room} {Pc : Array Value → State → Prop} {Qc : Array Value → State → Outcome → State → Prop} {mc ms : Nat} {free : Addr → Prop} {cc : ByteArray} {maxL : Nat} {ret : Option FieldType} {l : Launch}
    (hy : plainFor y = true) (hw : ws = Cond.code y cc maxL ret :: ws')
    (body : ∀ p e s m args below meth c s₁, BodyLoose p l y (headSpec ws rm) cc maxL ret e s m args below meth c s₁ → c.maxLocals = maxL → Pc args s →
      W p l e (headSpec ws rm).room s m args below meth c s.heap [] 0 0 (MQ below Qc args s mc ms free) (entryFrame m args maxL)) : Met l y ws rm Pc Qc mc ms free := by
  refine MetFree.of_bodySF (code := cc) (maxLocals := maxL) (ret := ret) hy ?_ ?_
  · intro args s m h hn
    obtain ⟨meth, c, h1, h2, h3, h4, h5, h6, -, -⟩ := Cond.code_spec hn (atoms_spec (ws := ws) h _ (by rw [hw]; exact List.mem_cons_self))
    exact ⟨meth, c, h1, h2, h3, h4, h5, h6⟩
  · intro p e s m args below meth c s₁ B hml hP _
    have hh0 : s₁.heap = s.heap := by rw [B.state]; rfl
    obtain ⟨t, a1, o, b1, b2, b3⟩ := body p e s m args below meth c s₁ B hml hP s₁ hh0 (Stand.of_body B)
    exact ⟨t, o, a1, b1, b2, ⟨b3.1, b3.2⟩⟩
theorem enter {y : MethodName} {ws ws' : List Cond} {rm : Room} {Qc : Array Value → State → Outcome → State → Prop} {mc ms : Nat} {free : Addr → Prop} {cc : ByteArray} {maxL : Nat} {ret : Option FieldType} {l : Launch} {g : Gx} {lo N : Nat} {ad : Nat → Nat} {F : Nat → va_E} {av : List Value}
    {own : String} (hy : plainFor y = true) (ho : y.cls = own) (hw : ws = Cond.code y cc maxL ret :: ws') (hn : (lg_sl av).length ≤ maxL)
    (body : ∀ p e s m below meth c, Bx p s m meth c cc maxL ret own ws av.toArray → (y.name = "<init>" → meth.name = "<init>") → Cu g lo N ad F s s.heap s.heap [] → ∀ ls, lv_has ls maxL (lv_args 0 av) →
      W p l e rm s m av.toArray below meth c s.heap [] 0 0 (MQ below Qc av.toArray s mc ms free) (F0 m 0 ls [])) : Met l y ws rm (va_Pc av (Wd g lo N ad F)) Qc mc ms free := by
  refine met_ofW (cc := cc) (maxL := maxL) (ret := ret) hy hw ?_
  intro p e s m args below meth c s₁ B hml hv
  obtain ⟨rfl, hK, hP, hD⟩ := hv
  rw [lg_entry_eq]
  refine body p e s m below meth c ⟨B.exec, B.bytes, hml, ho ▸ findClass_of_methodNamed B.named, atoms_spec (ws := ws) B.pre, B.returns, B.notSynchronized⟩ (fun h => ?_) ⟨hK, hP, hD, va_S.rf⟩ _ (lv_entry av hn)
  rw [(name_of_methodNamed B.named B.method).1]; exact h
section CELLS
variable {p : Program} {l : Launch} {e : Env} {R : Room} {s : State} {m : MethodId} {args : Array Value} {below : List Frame} {meth : Method} {c : Code} {H : Heap} {locs : List Loc} {cells slots : Nat} {Q : State → Prop}
variable {cc : ByteArray} {pc : Nat} {ls : Array Slot} {rest : List Value} {nL : Nat} {ret : Option FieldType} {own : String} {Ts : List Cond}
variable {g : Gx} {lo N : Nat} {ad : Nat → Nat} {F : Nat → va_E} {H0 : Heap}
theorem r_cg (B : Bx p s m meth c cc nL ret own Ts args) (hC : Cu g lo N ad F s H0 H locs) {i : Nat} (hi : i < N) {ci : Nat} {fs : List Value} (he : F i = .inr (ci, fs)) {C : String} {T : u_T} {n : Nat} (hc : vwCl[ci]? = some (C, T, n)) (hin : ∀ w ∈ u_ws C T n, w ∈ Ts) (k : Nat) (hk : k < n) {index : Nat} (hlk : Cond.fieldLink own index C (T k).2.1 (T k).2.2.1 ∈ Ts) (hCk : (T k).1 = C) {v : Value} (hv : fs[k]? = some v) (hdg : decode cc pc = .ok (.getfield index, 3))
    (kk : W p l e R s m args below meth c H locs cells slots Q (F0 m (pc + 3) ls (v :: rest))) : W p l e R s m args below meth c H locs cells slots Q (F0 m pc ls (.ref (ad i) :: rest)) := by
  obtain ⟨hK, hP, -, -⟩ := hC
  obtain ⟨hx, hb, -, hown, hts, -⟩ := B
  exact va_get (D := gD g) (ci := ci) (v := v) (C := C) (T := T) (N := n) hx hb hts hin hown hK hP i (fs := fs) (by rw [wl_at hi, he]) hc k hk (hts _ hlk) (fun x9 h9 => by rw [hCk] at h9; exact h9) hv hdg kk
theorem r_cp (B : Bx p s m meth c cc nL ret own Ts args) (hC : Cu g lo N ad F s H0 H locs) {i : Nat} (hi : i < N) {ci : Nat} {fs : List Value} (he : F i = .inr (ci, fs)) {C : String} {T : u_T} {n : Nat} (ty0 : Nat → FieldType) (hty : ∀ k, k < n → parseFieldDescriptor (T k).2.2.1 = some (ty0 k)) (hnm : ∀ a, a < n → ∀ b, b < n → a ≠ b → (T a).2.1 ≠ (T b).2.1) (hc : vwCl[ci]? = some (C, T, n)) (hin : ∀ w ∈ u_ws C T n, w ∈ Ts) (k : Nat) (hk : k < n) {index : Nat} (hlk : Cond.fieldLink own index C (T k).2.1 (T k).2.2.1 ∈ Ts) (hCk : (T k).1 = C) (hfin : (T k).2.2.2 = false) {v : Value} (hn : narrow (ty0 k) v = v) (hfit : fits (ty0 k) v = true) (hl : k < fs.length) (hdg : decode cc pc = .ok (.putfield index, 3))
    (kk : ∀ (H1 : Heap) (locs1 : List Loc), Cu g lo N ad (va_up F i (.inr (ci, fs.set k v))) s H0 H1 locs1 → W p l e R s m args below meth c H1 locs1 cells slots Q (F0 m (pc + 3) ls rest)) : W p l e R s m args below meth c H locs cells slots Q (F0 m pc ls (v :: .ref (ad i) :: rest)) := by
  obtain ⟨hK, hP, hD, hS⟩ := hC
  obtain ⟨hx, hb, -, hown, hts, -⟩ := B
  refine va_put (D := gD g) (ci := ci) (v := v) (ty := ty0 k) (C := C) (T := T) (N := n) hx hb hts hin ty0 hty hnm hown hK hP hD hS i (fs := fs) (by rw [wl_at hi, he]) hc k hk (hts _ hlk) (fun x9 h9 => by rw [hCk] at h9; exact h9) hfin (hty k hk) hn hfit hl hdg (fun H1 locs1 hP1 hD1 hS1 => ?_)
  rw [wl_set hi] at hP1 hD1
  exact kk H1 locs1 ⟨hK, hP1, hD1, hS1⟩
theorem r_cpF (B : Bx p s m meth c cc nL ret own Ts args) (hin2 : meth.name = "<init>") (hC : Cu g lo N ad F s H0 H locs) {i : Nat} (hi : i < N) {ci : Nat} {fs : List Value} (he : F i = .inr (ci, fs)) {T : u_T} {n : Nat} (ty0 : Nat → FieldType) (hty : ∀ k, k < n → parseFieldDescriptor (T k).2.2.1 = some (ty0 k)) (hnm : ∀ a, a < n → ∀ b, b < n → a ≠ b → (T a).2.1 ≠ (T b).2.1) (hc : vwCl[ci]? = some (own, T, n)) (hin : ∀ w ∈ u_ws own T n, w ∈ Ts) (k : Nat) (hk : k < n) {index : Nat} (hlk : Cond.fieldLink own index own (T k).2.1 (T k).2.2.1 ∈ Ts) (hCk : (T k).1 = own) (hfin : (T k).2.2.2 = true) {v : Value} (hn : narrow (ty0 k) v = v) (hfit : fits (ty0 k) v = true) (hl : k < fs.length) (hdg : decode cc pc = .ok (.putfield index, 3))
    (kk : ∀ (H1 : Heap) (locs1 : List Loc), Cu g lo N ad (va_up F i (.inr (ci, fs.set k v))) s H0 H1 locs1 → W p l e R s m args below meth c H1 locs1 cells slots Q (F0 m (pc + 3) ls rest)) : W p l e R s m args below meth c H locs cells slots Q (F0 m pc ls (v :: .ref (ad i) :: rest)) := by
  obtain ⟨hK, hP, hD, hS⟩ := hC
  obtain ⟨hx, hb, -, hown, hts, -⟩ := B
  refine va_putF (D := gD g) (ci := ci) (v := v) (ty := ty0 k) (C := own) (T := T) (N := n) hx hb hts hin ty0 hty hnm hown hK hP hD hS i (fs := fs) (by rw [wl_at hi, he]) hc k hk (hts _ hlk) (fun x9 h9 => by rw [hCk] at h9; exact h9) hfin hin2 hCk (hty k hk) hn hfit hl hdg (fun H1 locs1 hP1 hD1 hS1 => ?_)
  rw [wl_set hi] at hP1 hD1
  exact kk H1 locs1 ⟨hK, hP1, hD1, hS1⟩
/-- arrays; the index is a number j below the length -/
theorem r_cald (B : Bx p s m meth c cc nL ret own Ts args) (hC : Cu g lo N ad F s H0 H locs) {i : Nat} (hi : i < N) {n : Nat} {f : Nat → Int32} (he : F i = .inl (g.2.2 0, n, .inl f)) {j : Nat} (hj : j < n) (hn : n < 2 ^ 31) (hdg : decode cc pc = .ok (.iaload, 1))
    (kk : W p l e R s m args below meth c H locs cells slots Q (F0 m (pc + 1) ls (.int (f j) :: rest))) : W p l e R s m args below meth c H locs cells slots Q (F0 m pc ls (.int (nI j) :: .ref (ad i) :: rest)) := by
  obtain ⟨hK, hP, -, -⟩ := hC
  refine va_iald B.1 B.2.1 hK hP i 0 (f := f) (by rw [wl_at hi, he]) rfl (vp_in_nI hj hn) hdg ?_
  rw [nI_clamp (Nat.lt_trans hj hn)]; exact kk
theorem r_cbald (B : Bx p s m meth c cc nL ret own Ts args) (hC : Cu g lo N ad F s H0 H locs) {i : Nat} (hi : i < N) {n : Nat} {f : Nat → Int32} (he : F i = .inl (g.2.2 1, n, .inl f)) {j : Nat} (hj : j < n) (hn : n < 2 ^ 31) (hdg : decode cc pc = .ok (.baload, 1))
    (kk : W p l e R s m args below meth c H locs cells slots Q (F0 m (pc + 1) ls (.int (f j) :: rest))) : W p l e R s m args below meth c H locs cells slots Q (F0 m pc ls (.int (nI j) :: .ref (ad i) :: rest)) := by
  obtain ⟨hK, hP, -, -⟩ := hC
  refine va_bald B.1 B.2.1 hK hP i 1 (f := f) (by rw [wl_at hi, he]) rfl (vp_in_nI hj hn) hdg ?_
  rw [nI_clamp (Nat.lt_trans hj hn)]; exact kk
theorem r_czald (B : Bx p s m meth c cc nL ret own Ts args) (hC : Cu g lo N ad F s H0 H locs) {i : Nat} (hi : i < N) {n : Nat} {f : Nat → Int32} (he : F i = .inl (g.2.2 3, n, .inl f)) {j : Nat} (hj : j < n) (hn : n < 2 ^ 31) (hdg : decode cc pc = .ok (.baload, 1))
    (kk : W p l e R s m args below meth c H locs cells slots Q (F0 m (pc + 1) ls (.int (f j) :: rest))) : W p l e R s m args below meth c H locs cells slots Q (F0 m pc ls (.int (nI j) :: .ref (ad i) :: rest)) := by
  obtain ⟨hK, hP, -, -⟩ := hC
  refine va_zald B.1 B.2.1 hK hP i 3 (f := f) (by rw [wl_at hi, he]) rfl (vp_in_nI hj hn) hdg ?_
  rw [nI_clamp (Nat.lt_trans hj hn)]; exact kk
theorem r_clald (B : Bx p s m meth c cc nL ret own Ts args) (hC : Cu g lo N ad F s H0 H locs) {i : Nat} (hi : i < N) {n : Nat} {f : Nat → Int64} (he : F i = .inl (g.2.2 2, n, .inr (.inl f))) {j : Nat} (hj : j < n) (hn : n < 2 ^ 31) (hdg : decode cc pc = .ok (.laload, 1))
    (kk : W p l e R s m args below meth c H locs cells slots Q (F0 m (pc + 1) ls (.long (f j) :: rest))) : W p l e R s m args below meth c H locs cells slots Q (F0 m pc ls (.int (nI j) :: .ref (ad i) :: rest)) := by
  obtain ⟨hK, hP, -, -⟩ := hC
  refine va_lald B.1 B.2.1 hK hP i 2 (f := f) (by rw [wl_at hi, he]) rfl (vp_in_nI hj hn) hdg ?_
  rw [nI_clamp (Nat.lt_trans hj hn)]; exact kk
theorem r_cqald (B : Bx p s m meth c cc nL ret own Ts args) (hC : Cu g lo N ad F s H0 H locs) {i : Nat} (hi : i < N) {n : Nat} {f : Nat → Option Nat} (he : F i = .inl (g.2.2 4, n, .inr (.inr (.inr (.inr f))))) {j : Nat} (hj : j < n) (hn : n < 2 ^ 31) {t : Nat} (ht : f j = some t) (hdg : decode cc pc = .ok (.aaload, 1))
    (kk : W p l e R s m args below meth c H locs cells slots Q (F0 m (pc + 1) ls (.ref t :: rest))) : W p l e R s m args below meth c H locs cells slots Q (F0 m pc ls (.int (nI j) :: .ref (ad i) :: rest)) := by
  obtain ⟨hK, hP, -, -⟩ := hC
  refine va_aldq B.1 B.2.1 hK hP i 4 (C := "ShipFromItself$Load") (f := f) (by rw [wl_at hi, he]) rfl (vp_in_nI hj hn) hdg ?_
  rw [nI_clamp (Nat.lt_trans hj hn), ht]; exact kk
theorem r_cast (B : Bx p s m meth c cc nL ret own Ts args) (hC : Cu g lo N ad F s H0 H locs) {i : Nat} (hi : i < N) {n : Nat} {f : Nat → Int32} (he : F i = .inl (g.2.2 0, n, .inl f)) {j : Nat} (hj : j < n) (hn : n < 2 ^ 31) {x : Int32} (hdg : decode cc pc = .ok (.iastore, 1))
    (kk : ∀ (H1 : Heap) (locs1 : List Loc), Cu g lo N ad (va_up F i (.inl (g.2.2 0, n, .inl (upd f j x)))) s H0 H1 locs1 → W p l e R s m args below meth c H1 locs1 cells slots Q (F0 m (pc + 1) ls rest)) : W p l e R s m args below meth c H locs cells slots Q (F0 m pc ls (.int x :: .int (nI j) :: .ref (ad i) :: rest)) := by
  obtain ⟨hK, hP, hD, hS⟩ := hC
  refine va_iast B.1 B.2.1 hK hP hD hS i 0 (f := f) (by rw [wl_at hi, he]) rfl (vp_in_nI hj hn) hdg (fun H1 locs1 hP1 hD1 hS1 => ?_)
  rw [nI_clamp (Nat.lt_trans hj hn), wl_set hi] at hP1 hD1
  exact kk H1 locs1 ⟨hK, hP1, hD1, hS1⟩
theorem r_cbast (B : Bx p s m meth c cc nL ret own Ts args) (hC : Cu g lo N ad F s H0 H locs) {i : Nat} (hi : i < N) {n : Nat} {f : Nat → Int32} (he : F i = .inl (g.2.2 1, n, .inl f)) {j : Nat} (hj : j < n) (hn : n < 2 ^ 31) {x : Int32} (hdg : decode cc pc = .ok (.bastore, 1))
    (kk : ∀ (H1 : Heap) (locs1 : List Loc), Cu g lo N ad (va_up F i (.inl (g.2.2 1, n, .inl (upd f j (vp_nar .byte x))))) s H0 H1 locs1 → W p l e R s m args below meth c H1 locs1 cells slots Q (F0 m (pc + 1) ls rest)) : W p l e R s m args below meth c H locs cells slots Q (F0 m pc ls (.int x :: .int (nI j) :: .ref (ad i) :: rest)) := by
  obtain ⟨hK, hP, hD, hS⟩ := hC
  refine va_bast B.1 B.2.1 hK hP hD hS i 1 (f := f) (by rw [wl_at hi, he]) rfl (vp_in_nI hj hn) hdg (fun H1 locs1 hP1 hD1 hS1 => ?_)
  rw [nI_clamp (Nat.lt_trans hj hn), wl_set hi] at hP1 hD1
  exact kk H1 locs1 ⟨hK, hP1, hD1, hS1⟩
theorem r_czast (B : Bx p s m meth c cc nL ret own Ts args) (hC : Cu g lo N ad F s H0 H locs) {i : Nat} (hi : i < N) {n : Nat} {f : Nat → Int32} (he : F i = .inl (g.2.2 3, n, .inl f)) {j : Nat} (hj : j < n) (hn : n < 2 ^ 31) {x : Int32} (hdg : decode cc pc = .ok (.bastore, 1))
    (kk : ∀ (H1 : Heap) (locs1 : List Loc), Cu g lo N ad (va_up F i (.inl (g.2.2 3, n, .inl (upd f j (vp_nar .boolean x))))) s H0 H1 locs1 → W p l e R s m args below meth c H1 locs1 cells slots Q (F0 m (pc + 1) ls rest)) : W p l e R s m args below meth c H locs cells slots Q (F0 m pc ls (.int x :: .int (nI j) :: .ref (ad i) :: rest)) := by
  obtain ⟨hK, hP, hD, hS⟩ := hC
  refine va_zast B.1 B.2.1 hK hP hD hS i 3 (f := f) (by rw [wl_at hi, he]) rfl (vp_in_nI hj hn) hdg (fun H1 locs1 hP1 hD1 hS1 => ?_)
  rw [nI_clamp (Nat.lt_trans hj hn), wl_set hi] at hP1 hD1
  exact kk H1 locs1 ⟨hK, hP1, hD1, hS1⟩
theorem r_clast (B : Bx p s m meth c cc nL ret own Ts args) (hC : Cu g lo N ad F s H0 H locs) {i : Nat} (hi : i < N) {n : Nat} {f : Nat → Int64} (he : F i = .inl (g.2.2 2, n, .inr (.inl f))) {j : Nat} (hj : j < n) (hn : n < 2 ^ 31) {x : Int64} (hdg : decode cc pc = .ok (.lastore, 1))
    (kk : ∀ (H1 : Heap) (locs1 : List Loc), Cu g lo N ad (va_up F i (.inl (g.2.2 2, n, .inr (.inl (vp_updL f j x))))) s H0 H1 locs1 → W p l e R s m args below meth c H1 locs1 cells slots Q (F0 m (pc + 1) ls rest)) : W p l e R s m args below meth c H locs cells slots Q (F0 m pc ls (.long x :: .int (nI j) :: .ref (ad i) :: rest)) := by
  obtain ⟨hK, hP, hD, hS⟩ := hC
  refine va_last B.1 B.2.1 hK hP hD hS i 2 (f := f) (by rw [wl_at hi, he]) rfl (vp_in_nI hj hn) hdg (fun H1 locs1 hP1 hD1 hS1 => ?_)
  rw [nI_clamp (Nat.lt_trans hj hn), wl_set hi] at hP1 hD1
  exact kk H1 locs1 ⟨hK, hP1, hD1, hS1⟩
theorem r_calen (B : Bx p s m meth c cc nL ret own Ts args) (hC : Cu g lo N ad F s H0 H locs) {i : Nat} (hi : i < N) {cA : ClassId} {x : vp_A} (he : F i = .inl (cA, x)) (t0 : Nat) {ty : FieldType} (ht : (gT g)[t0]? = some (cA, ty)) {n : Nat} (hv : x.1 = n) (hdg : decode cc pc = .ok (.arraylength, 1))
    (kk : W p l e R s m args below meth c H locs cells slots Q (F0 m (pc + 1) ls (.int (nI n) :: rest))) : W p l e R s m args below meth c H locs cells slots Q (F0 m pc ls (.ref (ad i) :: rest)) := by
  obtain ⟨hK, hP, -, -⟩ := hC
  exact va_alen B.1 B.2.1 hK hP i t0 (x := x) (by rw [wl_at hi, he]) ht (v := nI n) (by rw [hv]; rfl) hdg kk
/-- another name for the number on top -/
theorem r_tI {x y : Int32} (h : x = y) (k : W p l e R s m args below meth c H locs cells slots Q (F0 m pc ls (.int y :: rest))) : W p l e R s m args below meth c H locs cells slots Q (F0 m pc ls (.int x :: rest)) := by
  subst h; exact k
theorem r_tL {x y : Int64} (h : x = y) (k : W p l e R s m args below meth c H locs cells slots Q (F0 m pc ls (.long y :: rest))) : W p l e R s m args below meth c H locs cells slots Q (F0 m pc ls (.long x :: rest)) := by
  subst h; exact k
-- ends
theorem r_eI {post : Int32 → (Nat → va_E) → Prop} (B : Bx p s m meth c cc nL (some .int) own Ts args) (hC : Cu g lo N ad F s s.heap H locs) {v : Int32} (hp : post v F) (hdg : decode cc pc = .ok (.ireturn, 1)) :
    W p l e R s m args below meth c H locs 0 0 (MQ below (va_Qi post (fun F' t => Wd g lo N ad F' t) (fun q => lo ≤ q)) args s 0 0 (fun q => lo ≤ q)) (F0 m pc ls [.int v]) := by
  obtain ⟨hK, hP, hD, hS⟩ := hC
  obtain ⟨hx, hb, hml, hown, hts, hr, hlocks⟩ := B
  exact W.iret (v := v) hx hb hr (fun t ht hW => ⟨⟨v, F, rfl, hp, va_K.moved hW.alike hK, by rw [ht]; exact hP, hD⟩, hS.F ht⟩) hS.2.2 hdg
theorem r_eZ {post : Int32 → (Nat → va_E) → Prop} (B : Bx p s m meth c cc nL (some .boolean) own Ts args) (hC : Cu g lo N ad F s s.heap H locs) {v : Int32} (hn : narrow .boolean (.int v) = .int v) (hp : post v F) (hdg : decode cc pc = .ok (.ireturn, 1)) :
    W p l e R s m args below meth c H locs 0 0 (MQ below (va_Qi post (fun F' t => Wd g lo N ad F' t) (fun q => lo ≤ q)) args s 0 0 (fun q => lo ≤ q)) (F0 m pc ls [.int v]) := by
  obtain ⟨hK, hP, hD, hS⟩ := hC
  obtain ⟨hx, hb, hml, hown, hts, hr, hlocks⟩ := B
  exact W.zret (v := v) hx hb hr hn (fun t ht hW => ⟨⟨v, F, rfl, hp, va_K.moved hW.alike hK, by rw [ht]; exact hP, hD⟩, hS.F ht⟩) hS.2.2 hdg
theorem r_eL {post : Int64 → (Nat → va_E) → Prop} (B : Bx p s m meth c cc nL (some .long) own Ts args) (hC : Cu g lo N ad F s s.heap H locs) {v : Int64} (hp : post v F) (hdg : decode cc pc = .ok (.lreturn, 1)) :
    W p l e R s m args below meth c H locs 0 0 (MQ below (va_Ql post (fun F' t => Wd g lo N ad F' t) (fun q => lo ≤ q)) args s 0 0 (fun q => lo ≤ q)) (F0 m pc ls [.long v]) := by
  obtain ⟨hK, hP, hD, hS⟩ := hC
  obtain ⟨hx, hb, hml, hown, hts, hr, hlocks⟩ := B
  exact W.lret (v := v) hx hb hr (fun t ht hW => ⟨⟨v, F, rfl, hp, va_K.moved hW.alike hK, by rw [ht]; exact hP, hD⟩, hS.F ht⟩) hS.2.2 hdg
theorem r_eV {post : (Nat → va_E) → Prop} (B : Bx p s m meth c cc nL none own Ts args) (hC : Cu g lo N ad F s s.heap H locs) (hp : post F) (hdg : decode cc pc = .ok (.return_, 1)) :
    W p l e R s m args below meth c H locs 0 0 (MQ below (va_Qv post (fun F' t => Wd g lo N ad F' t) (fun q => lo ≤ q)) args s 0 0 (fun q => lo ≤ q)) (F0 m pc ls []) := by
  obtain ⟨hK, hP, hD, hS⟩ := hC
  obtain ⟨hx, hb, hml, hown, hts, hr, hlocks⟩ := B
  exact W.vret hx hb hr (fun t ht hW => ⟨⟨F, rfl, hp, va_K.moved hW.alike hK, by rw [ht]; exact hP, hD⟩, hS.F ht⟩) hS.2.2 hdg
theorem r_eR {rt : FieldType} (B : Bx p s m meth c cc nL (some rt) own Ts args) (hC : Cu g lo N ad F s s.heap H locs) (hrt : (∃ n, rt = .object n) ∨ ∃ t, rt = .array t) {i : Nat} (hdg : decode cc pc = .ok (.areturn, 1)) :
    W p l e R s m args below meth c H locs 0 0 (MQ below (va_Qr (fun F' : Nat → va_E => F' = F) (fun F' a t => a = ad i ∧ Wd g lo N ad F' t) (fun q => lo ≤ q)) args s 0 0 (fun q => lo ≤ q)) (F0 m pc ls [.ref (ad i)]) := by
  obtain ⟨hK, hP, hD, hS⟩ := hC
  obtain ⟨hx, hb, hml, hown, hts, hr, hlocks⟩ := B
  exact W.aret (v := .ref (ad i)) hx hb hr hrt (Or.inr ⟨_, rfl⟩) (fun t ht hW => ⟨⟨F, ad i, rfl, rfl, rfl, va_K.moved hW.alike hK, by rw [ht]; exact hP, hD⟩, hS.F ht⟩) hS.2.2 hdg
-- calls
variable {y : MethodName} {bytes : ByteArray} {maxL n index fr lc : Nat} {rt : Option FieldType} {ws ws' : List Cond} {C : String} {As : List Value} {st : List Value}
theorem r_calli (B : Bx p s m meth c cc nL ret own Ts args) (hC : Cu g lo N ad F s H0 H locs) (hl : ls.size = nL) (i ci : Nat) {q : vw_C} (hq : vwCl[ci]? = some q) (hqC : q.1 = C) {fs : List Value} (hi : i < N) (he : F i = .inr (ci, fs)) {post : Int32 → (Nat → va_E) → Prop} (hM : MI l g lo N ad y ws fr lc (.ref (ad i) :: As) F post)
    (hG : GoodIn Ts (wsV own index C y ws)) (hw : ws = Cond.code y bytes maxL rt :: ws') (hAn : As.length = n) (hd : y.cls = C ∧ y.cls ≠ "java/lang/invoke/MethodHandle" ∧ y.cls ≠ "java/lang/invoke/VarHandle" ∧ (parseMethodDescriptor y.desc).map (fun d => d.parameters.length) = some n) (hR : fr + 1 ≤ R.frames ∧ 8 + (maxL + 11) + lc ≤ R.locals) (hcs : cells ≤ R.cells ∧ slots ≤ R.slots) (hst : st = As.reverse ++ .ref (ad i) :: rest) (hr : (rest.map fun v => v.category).sum ≤ 8) (hdg : decode cc pc = .ok (.invokevirtual index, 3))
    (kk : ∀ (r : Int32) (F1 : Nat → va_E) (H1 : Heap) (locs1 : List Loc), post r F1 → Cu g lo N ad F1 s H0 H1 locs1 → W p l e R s m args below meth c H1 locs1 cells slots Q (F0 m (pc + 3) ls (.int r :: rest))) : W p l e R s m args below meth c H locs cells slots Q (F0 m pc ls st) := by
  obtain ⟨hK, hP, hD, hS⟩ := hC
  obtain ⟨hx, hb, hml, hown, hts, -⟩ := B
  refine va_calli (va_runV (As := As) (rest := rest) ⟨hx, hb, hml, hown, hts⟩ hM (cwV n hts hG hw rfl rfl hd hR) ⟨wd_blind, hqC ▸ va_recv hK hP hq (q0 := i) (fs := fs) (by rw [wl_at hi, he]), fun U hU hW => ⟨rfl, va_K.moved hW.alike hK, by rw [hU]; exact hP, hD⟩⟩ rfl hAn hl hst (lv_room hr) hdg hcs) hS (fun q _ h => h) (fun q h => h) (fun r u t H1 locs1 ht hvm hw hB hz1 hk1 hS => ?_)
  obtain ⟨hK1, hP1, hD1⟩ := hB
  rw [ht] at hP1
  exact kk r u H1 locs1 hw ⟨hK, hP1, hD1, hS⟩
theorem r_calll (B : Bx p s m meth c cc nL ret own Ts args) (hC : Cu g lo N ad F s H0 H locs) (hl : ls.size = nL) (i ci : Nat) {q : vw_C} (hq : vwCl[ci]? = some q) (hqC : q.1 = C) {fs : List Value} (hi : i < N) (he : F i = .inr (ci, fs)) {post : Int64 → (Nat → va_E) → Prop} (hM : ML l g lo N ad y ws fr lc (.ref (ad i) :: As) F post)
    (hG : GoodIn Ts (wsV own index C y ws)) (hw : ws = Cond.code y bytes maxL rt :: ws') (hAn : As.length = n) (hd : y.cls = C ∧ y.cls ≠ "java/lang/invoke/MethodHandle" ∧ y.cls ≠ "java/lang/invoke/VarHandle" ∧ (parseMethodDescriptor y.desc).map (fun d => d.parameters.length) = some n) (hR : fr + 1 ≤ R.frames ∧ 8 + (maxL + 11) + lc ≤ R.locals) (hcs : cells ≤ R.cells ∧ slots ≤ R.slots) (hst : st = As.reverse ++ .ref (ad i) :: rest) (hr : (rest.map fun v => v.category).sum ≤ 8) (hdg : decode cc pc = .ok (.invokevirtual index, 3))
    (kk : ∀ (r : Int64) (F1 : Nat → va_E) (H1 : Heap) (locs1 : List Loc), post r F1 → Cu g lo N ad F1 s H0 H1 locs1 → W p l e R s m args below meth c H1 locs1 cells slots Q (F0 m (pc + 3) ls (.long r :: rest))) : W p l e R s m args below meth c H locs cells slots Q (F0 m pc ls st) := by
  obtain ⟨hK, hP, hD, hS⟩ := hC
  obtain ⟨hx, hb, hml, hown, hts, -⟩ := B
  refine va_calll (va_runV (As := As) (rest := rest) ⟨hx, hb, hml, hown, hts⟩ hM (cwV n hts hG hw rfl rfl hd hR) ⟨wd_blind, hqC ▸ va_recv hK hP hq (q0 := i) (fs := fs) (by rw [wl_at hi, he]), fun U hU hW => ⟨rfl, va_K.moved hW.alike hK, by rw [hU]; exact hP, hD⟩⟩ rfl hAn hl hst (lv_room hr) hdg hcs) hS (fun q _ h => h) (fun q h => h) (fun r u t H1 locs1 ht hvm hw hB hz1 hk1 hS => ?_)
  obtain ⟨hK1, hP1, hD1⟩ := hB
  rw [ht] at hP1
  exact kk r u H1 locs1 hw ⟨hK, hP1, hD1, hS⟩
theorem r_callv (B : Bx p s m meth c cc nL ret own Ts args) (hC : Cu g lo N ad F s H0 H locs) (hl : ls.size = nL) (i ci : Nat) {q : vw_C} (hq : vwCl[ci]? = some q) (hqC : q.1 = C) {fs : List Value} (hi : i < N) (he : F i = .inr (ci, fs)) {post : (Nat → va_E) → Prop} (hM : MV l g lo N ad y ws fr lc (.ref (ad i) :: As) F post)
    (hG : GoodIn Ts (wsV own index C y ws)) (hw : ws = Cond.code y bytes maxL rt :: ws') (hAn : As.length = n) (hd : y.cls = C ∧ y.cls ≠ "java/lang/invoke/MethodHandle" ∧ y.cls ≠ "java/lang/invoke/VarHandle" ∧ (parseMethodDescriptor y.desc).map (fun d => d.parameters.length) = some n) (hR : fr + 1 ≤ R.frames ∧ 8 + (maxL + 11) + lc ≤ R.locals) (hcs : cells ≤ R.cells ∧ slots ≤ R.slots) (hst : st = As.reverse ++ .ref (ad i) :: rest) (hr : (rest.map fun v => v.category).sum ≤ 8) (hdg : decode cc pc = .ok (.invokevirtual index, 3))
    (kk : ∀ (F1 : Nat → va_E) (H1 : Heap) (locs1 : List Loc), post F1 → Cu g lo N ad F1 s H0 H1 locs1 → W p l e R s m args below meth c H1 locs1 cells slots Q (F0 m (pc + 3) ls rest)) : W p l e R s m args below meth c H locs cells slots Q (F0 m pc ls st) := by
  obtain ⟨hK, hP, hD, hS⟩ := hC
  obtain ⟨hx, hb, hml, hown, hts, -⟩ := B
  refine va_callv (va_runV (As := As) (rest := rest) ⟨hx, hb, hml, hown, hts⟩ hM (cwV n hts hG hw rfl rfl hd hR) ⟨wd_blind, hqC ▸ va_recv hK hP hq (q0 := i) (fs := fs) (by rw [wl_at hi, he]), fun U hU hW => ⟨rfl, va_K.moved hW.alike hK, by rw [hU]; exact hP, hD⟩⟩ rfl hAn hl hst (lv_room hr) hdg hcs) hS (fun q _ h => h) (fun q h => h) (fun u t H1 locs1 ht hvm hw hB hz1 hk1 hS => ?_)
  obtain ⟨hK1, hP1, hD1⟩ := hB
  rw [ht] at hP1
  exact kk u H1 locs1 hw ⟨hK, hP1, hD1, hS⟩
theorem r_callr (B : Bx p s m meth c cc nL ret own Ts args) (hC : Cu g lo N ad F s H0 H locs) (hl : ls.size = nL) (i ci : Nat) {q : vw_C} (hq : vwCl[ci]? = some q) (hqC : q.1 = C) {fs : List Value} (hi : i < N) (he : F i = .inr (ci, fs)) {k : Nat} (hM : MR l g lo N ad y ws fr lc (.ref (ad i) :: As) F k)
    (hG : GoodIn Ts (wsV own index C y ws)) (hw : ws = Cond.code y bytes maxL rt :: ws') (hAn : As.length = n) (hd : y.cls = C ∧ y.cls ≠ "java/lang/invoke/MethodHandle" ∧ y.cls ≠ "java/lang/invoke/VarHandle" ∧ (parseMethodDescriptor y.desc).map (fun d => d.parameters.length) = some n) (hR : fr + 1 ≤ R.frames ∧ 8 + (maxL + 11) + lc ≤ R.locals) (hcs : cells ≤ R.cells ∧ slots ≤ R.slots) (hst : st = As.reverse ++ .ref (ad i) :: rest) (hr : (rest.map fun v => v.category).sum ≤ 8) (hdg : decode cc pc = .ok (.invokevirtual index, 3))
    (kk : ∀ (H1 : Heap) (locs1 : List Loc), Cu g lo N ad F s H0 H1 locs1 → W p l e R s m args below meth c H1 locs1 cells slots Q (F0 m (pc + 3) ls (.ref (ad k) :: rest))) : W p l e R s m args below meth c H locs cells slots Q (F0 m pc ls st) := by
  obtain ⟨hK, hP, hD, hS⟩ := hC
  obtain ⟨hx, hb, hml, hown, hts, -⟩ := B
  refine va_callr (va_runV (As := As) (rest := rest) ⟨hx, hb, hml, hown, hts⟩ hM (cwV n hts hG hw rfl rfl hd hR) ⟨wd_blind, hqC ▸ va_recv hK hP hq (q0 := i) (fs := fs) (by rw [wl_at hi, he]), fun U hU hW => ⟨rfl, va_K.moved hW.alike hK, by rw [hU]; exact hP, hD⟩⟩ rfl hAn hl hst (lv_room hr) hdg hcs) hS (fun q _ h => h) (fun q h => h) (fun u ra t H1 locs1 ht hvm hw hB hz1 hk1 hS => ?_)
  obtain ⟨rfl, hK1, hP1, hD1⟩ := hB
  rw [ht] at hP1
  subst hw
  exact kk H1 locs1 ⟨hK, hP1, hD1, hS⟩
theorem r_scalli (B : Bx p s m meth c cc nL ret own Ts args) (hC : Cu g lo N ad F s H0 H locs) (hl : ls.size = nL) {post : Int32 → (Nat → va_E) → Prop} (hM : MI l g lo N ad y ws fr lc As F post)
    (hG : GoodIn Ts (va_wsS own index y ws)) (hw : ws = Cond.code y bytes maxL rt :: ws') (hAn : As.length = n) (hd : y.cls ≠ "java/lang/invoke/MethodHandle" ∧ y.cls ≠ "java/lang/invoke/VarHandle" ∧ (parseMethodDescriptor y.desc).map (fun d => d.parameters.length) = some n) (hR : fr + 1 ≤ R.frames ∧ 8 + (maxL + 11) + lc ≤ R.locals) (hcs : cells ≤ R.cells ∧ slots ≤ R.slots) (hst : st = As.reverse ++ rest) (hr : (rest.map fun v => v.category).sum ≤ 8) (hdg : decode cc pc = .ok (.invokestatic index, 3))
    (kk : ∀ (r : Int32) (F1 : Nat → va_E) (H1 : Heap) (locs1 : List Loc), post r F1 → Cu g lo N ad F1 s H0 H1 locs1 → W p l e R s m args below meth c H1 locs1 cells slots Q (F0 m (pc + 3) ls (.int r :: rest))) : W p l e R s m args below meth c H locs cells slots Q (F0 m pc ls st) := by
  obtain ⟨hK, hP, hD, hS⟩ := hC
  obtain ⟨hx, hb, hml, hown, hts, -⟩ := B
  refine va_calli (va_runS (As := As) (rest := rest) ⟨hx, hb, hml, hown, hts⟩ hM (va_cwS n hts hG hw rfl rfl hd hR) ⟨wd_blind, fun U hU hW => ⟨rfl, va_K.moved hW.alike hK, by rw [hU]; exact hP, hD⟩⟩ rfl hAn hl hst (lv_room hr) hdg hcs) hS (fun q _ h => h) (fun q h => h) (fun r u t H1 locs1 ht hvm hw hB hz1 hk1 hS => ?_)
  obtain ⟨hK1, hP1, hD1⟩ := hB
  rw [ht] at hP1
  exact kk r u H1 locs1 hw ⟨hK, hP1, hD1, hS⟩
theorem r_scalll (B : Bx p s m meth c cc nL ret own Ts args) (hC : Cu g lo N ad F s H0 H locs) (hl : ls.size = nL) {post : Int64 → (Nat → va_E) → Prop} (hM : ML l g lo N ad y ws fr lc As F post)
    (hG : GoodIn Ts (va_wsS own index y ws)) (hw : ws = Cond.code y bytes maxL rt :: ws') (hAn : As.length = n) (hd : y.cls ≠ "java/lang/invoke/MethodHandle" ∧ y.cls ≠ "java/lang/invoke/VarHandle" ∧ (parseMethodDescriptor y.desc).map (fun d => d.parameters.length) = some n) (hR : fr + 1 ≤ R.frames ∧ 8 + (maxL + 11) + lc ≤ R.locals) (hcs : cells ≤ R.cells ∧ slots ≤ R.slots) (hst : st = As.reverse ++ rest) (hr : (rest.map fun v => v.category).sum ≤ 8) (hdg : decode cc pc = .ok (.invokestatic index, 3))
    (kk : ∀ (r : Int64) (F1 : Nat → va_E) (H1 : Heap) (locs1 : List Loc), post r F1 → Cu g lo N ad F1 s H0 H1 locs1 → W p l e R s m args below meth c H1 locs1 cells slots Q (F0 m (pc + 3) ls (.long r :: rest))) : W p l e R s m args below meth c H locs cells slots Q (F0 m pc ls st) := by
  obtain ⟨hK, hP, hD, hS⟩ := hC
  obtain ⟨hx, hb, hml, hown, hts, -⟩ := B
  refine va_calll (va_runS (As := As) (rest := rest) ⟨hx, hb, hml, hown, hts⟩ hM (va_cwS n hts hG hw rfl rfl hd hR) ⟨wd_blind, fun U hU hW => ⟨rfl, va_K.moved hW.alike hK, by rw [hU]; exact hP, hD⟩⟩ rfl hAn hl hst (lv_room hr) hdg hcs) hS (fun q _ h => h) (fun q h => h) (fun r u t H1 locs1 ht hvm hw hB hz1 hk1 hS => ?_)
  obtain ⟨hK1, hP1, hD1⟩ := hB
  rw [ht] at hP1
  exact kk r u H1 locs1 hw ⟨hK, hP1, hD1, hS⟩
/-- System.arraycopy of k ints, from the beginning to the beginning -/
theorem r_copyi (B : Bx p s m meth c cc nL ret own Ts args) (hC : Cu g lo N ad F s H0 H locs) (hl : ls.size = nL) {i j : Nat} (hi : i < N) (hj : j < N) {n0 n1 k : Nat} {f h : Nat → Int32} (hei : F i = .inl (g.2.2 0, n0, .inl f)) (hej : F j = .inl (g.2.2 0, n1, .inl h)) (h4 : k ≤ n0) (h5 : k ≤ n1) (hk : k < 2 ^ 31) {index : Nat} (hw1 : Cond.methodLink own index arraycopyName ∈ Ts) (hw2 : Cond.native arraycopyName ∈ Ts) (hw3 : Cond.static arraycopyName ∈ Ts) (hw4 : Cond.initialized "java/lang/System" ∈ Ts)
    (hframes : 1 ≤ R.frames) (hlocals : (rest.map fun v => v.category).sum + (nativeFrameWords "java/lang/System" "arraycopy" 5 + 11) ≤ R.locals) (hdg : decode cc pc = .ok (.invokestatic index, 3))
    (kk : ∀ (H1 : Heap) (locs1 : List Loc), Cu g lo N ad (va_up F j (.inl (g.2.2 0, n1, .inl (va_cpy f h 0 0 k)))) s H0 H1 locs1 → W p l e R s m args below meth c H1 locs1 cells slots Q (F0 m (pc + 3) ls rest)) : W p l e R s m args below meth c H locs cells slots Q (F0 m pc ls (.int (nI k) :: .int (nI 0) :: .ref (ad j) :: .int (nI 0) :: .ref (ad i) :: rest)) := by
  obtain ⟨hK, hP, hD, hS⟩ := hC
  obtain ⟨hx, hb, hml, hown, hts, -⟩ := B
  have z0 : (nI 0).toNatClampNeg = 0 := nI_clamp (by decide)
  refine va_copyi hx hb (hml.trans hl.symm) hown (hts _ hw1) (hts _ hw2) (hts _ hw3) (hts _ hw4) hK hP hD hS i j 0 0 (f := f) (g := h) (ty := .int) (by rw [wl_at hi, hei]) (by rw [wl_at hj, hej]) rfl rfl rfl (nI_pos (by decide)) (nI_pos (by decide)) (nI_pos hk) (by rw [z0, nI_clamp hk]; omega) (by rw [z0, nI_clamp hk]; omega) (fun _ _ => rfl) hframes hlocals hdg (fun H1 locs1 hP1 hD1 hS1 => ?_)
  rw [z0, nI_clamp hk, wl_set hj] at hP1 hD1
  exact kk H1 locs1 ⟨hK, hP1, hD1, hS1⟩
/-- Math.max, Math.min of two ints -/
theorem r_max (B : Bx p s m meth c cc nL ret own Ts args) (hl : ls.size = nL) {index : Nat} (hw1 : Cond.methodLink own index Lib.Math.max.name ∈ Ts) (hw2 : Cond.static Lib.Math.max.name ∈ Ts) (hw3 : Cond.initialized "java/lang/Math" ∈ Ts) (hw4 : Cond.code Lib.Math.max.name Lib.Math.max.code 2 (some .int) ∈ Ts) (hframes : 1 ≤ R.frames) (hlocals : (rest.map fun v => v.category).sum + 13 ≤ R.locals) (hc : cells ≤ R.cells) (hs : slots ≤ R.slots) {x y : Int32} (hdg : decode cc pc = .ok (.invokestatic index, 3))
    (kk : W p l e R s m args below meth c H locs cells slots Q (F0 m (pc + 3) ls (.int (if x < y then y else x) :: rest))) : W p l e R s m args below meth c H locs cells slots Q (F0 m pc ls (.int y :: .int x :: rest)) := by
  obtain ⟨hx, hb, hml, hown, hts, -⟩ := B
  exact va_mmax hx hb (hml.trans hl.symm) hown (hts _ hw1) (hts _ hw2) (hts _ hw3) (hts _ hw4) hframes hlocals hc hs hdg kk
theorem r_min (B : Bx p s m meth c cc nL ret own Ts args) (hl : ls.size = nL) {index : Nat} (hw1 : Cond.methodLink own index Lib.Math.min.name ∈ Ts) (hw2 : Cond.static Lib.Math.min.name ∈ Ts) (hw3 : Cond.initialized "java/lang/Math" ∈ Ts) (hw4 : Cond.code Lib.Math.min.name Lib.Math.min.code 2 (some .int) ∈ Ts) (hframes : 1 ≤ R.frames) (hlocals : (rest.map fun v => v.category).sum + 13 ≤ R.locals) (hc : cells ≤ R.cells) (hs : slots ≤ R.slots) {x y : Int32} (hdg : decode cc pc = .ok (.invokestatic index, 3))
    (kk : W p l e R s m args below meth c H locs cells slots Q (F0 m (pc + 3) ls (.int (if y < x then y else x) :: rest))) : W p l e R s m args below meth c H locs cells slots Q (F0 m pc ls (.int y :: .int x :: rest)) := by
  obtain ⟨hx, hb, hml, hown, hts, -⟩ := B
  exact va_mmin hx hb (hml.trans hl.symm) hown (hts _ hw1) (hts _ hw2) (hts _ hw3) (hts _ hw4) hframes hlocals hc hs hdg kk
end CELLS
