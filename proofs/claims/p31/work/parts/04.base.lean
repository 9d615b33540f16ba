section BASE
/-- the array classes of a run: of int and long arrays (the third is of no use here) -/
abbrev GG : Type := va_G × (ClassId × ClassId × ClassId)
abbrev tyG (g : GG) : List (ClassId × FieldType) := [(g.2.1, .int), (g.2.2.1, .long)]
def Pw (g : GG) (wd : va_W) (sz : Nat) (U : State) : Prop := U.heap.size = sz ∧ va_P g.1 vwCl wd U.heap ∧ va_K g.1 vwCl (tyG g) U ∧ va_D (fun _ => True) wd
def Bw (g : GG) (A : Nat → Prop) (wd : va_W) (t : State) : Prop := va_P g.1 vwCl wd t.heap ∧ va_K g.1 vwCl (tyG g) t ∧ va_D A wd
/-- contracts over a world that makes nothing: with an int (or boolean), a long, nothing as the answer -/
def Ci (l : Launch) (y : MethodName) (ws : List Cond) (rm : Room) (g : GG) (av : List Value) (wd : va_W) (post : Int32 → va_W → Prop) : Prop := ∀ sz : Nat, Met l y ws rm (va_Pc av (Pw g wd sz)) (va_Qi post (fun w t => Bw g (va_A wd sz) w t) (va_A wd sz)) 0 0 (va_A wd sz)
def Cl (l : Launch) (y : MethodName) (ws : List Cond) (rm : Room) (g : GG) (av : List Value) (wd : va_W) (post : Int64 → va_W → Prop) : Prop := ∀ sz : Nat, Met l y ws rm (va_Pc av (Pw g wd sz)) (va_Ql post (fun w t => Bw g (va_A wd sz) w t) (va_A wd sz)) 0 0 (va_A wd sz)
def Cv (l : Launch) (y : MethodName) (ws : List Cond) (rm : Room) (g : GG) (av : List Value) (wd : va_W) (post : va_W → Prop) : Prop := ∀ sz : Nat, Met l y ws rm (va_Pc av (Pw g wd sz)) (va_Qv post (fun w t => Bw g (va_A wd sz) w t) (va_A wd sz)) 0 0 (va_A wd sz)
/-- pure static methods -/
def Pi (l : Launch) (y : MethodName) (ws : List Cond) (rm : Room) (av : List Value) (post : Int32 → Prop) : Prop := ∀ g : GG, Ci l y ws rm g av [] (fun r w => w = [] ∧ post r)
def Pl (l : Launch) (y : MethodName) (ws : List Cond) (rm : Room) (av : List Value) (post : Int64 → Prop) : Prop := ∀ g : GG, Cl l y ws rm g av [] (fun r w => w = [] ∧ post r)
theorem Pw.blind (g : GG) (av : List Value) (wd : va_W) (sz : Nat) : FrameBlind (va_Pc av (Pw g wd sz)) := fun a U gg mk q => by
  obtain ⟨q0, q1, qP, qK, qD⟩ := q
  exact ⟨q0, q1, qP, va_K.moved (u := U) (U := U.calling gg mk a) (Vm.Alike.refl U.vm) qK, qD⟩
theorem fm_of {ws wc : va_W} : ∀ {is : List Nat} {w : va_W}, is.map (fun i => ws[i]?) = w.map some → is.filterMap (fun i => ws[i]?) = w
  | [], [], _ => rfl
  | [], _ :: _, h => by cases h
  | _ :: _, [], h => by cases h
  | i :: is, x :: w, h => by
    obtain ⟨h1, h2⟩ := List.cons.inj (show ws[i]? :: is.map (fun i => ws[i]?) = some x :: w.map some from h)
    rw [List.filterMap_cons, h1]
    show x :: _ = _
    rw [fm_of (wc := wc) h2]
theorem rng_map (ws : va_W) : (List.range ws.length).map (fun i => ws[i]?) = ws.map some := by
  apply List.ext_getElem?
  intro i
  rw [List.getElem?_map, List.getElem?_map]
  by_cases h : i < ws.length
  · rw [List.getElem?_range h, List.getElem?_eq_getElem h]
    show some (ws[i]?) = _
    rw [List.getElem?_eq_getElem h]
    rfl
  · rw [List.getElem?_eq_none (by rw [List.length_range]; omega), List.getElem?_eq_none (by omega)]
    rfl
theorem nd_of : ∀ {l : List Nat}, l.Nodup → va_nd l = true
  | [], _ => rfl
  | a :: l, h => by
    have h' := List.nodup_cons.mp h
    show (decide (a ∉ l) && va_nd l) = true
    rw [nd_of h'.2, decide_eq_true h'.1]
    rfl
variable {l : Launch} {y : MethodName} {ws ws' : List Cond} {rm : Room} {g : GG} {av : List Value} {wd : va_W} {cc : ByteArray} {maxL : Nat}
/-- the body of a method that answers an int -/
theorem Ci.ofI {post : Int32 → va_W → Prop} (hy : plainName y.cls = true) (hw : ws = Cond.code y cc maxL (some .int) :: ws') (hn : (lg_sl av).length ≤ maxL)
    (body : ∀ (p : Program) (e : Env) (s : State) (m : MethodId) (args : Array Value) (below : List Frame) (meth : Method) (c : Code) (A : Nat → Prop) (Z : State → Prop),
      p.tables.exec = Jvm.exec → c.code = cc → c.maxLocals = maxL → (∀ w ∈ ws, w.before args s = true) → s.vm.findClass y.cls = some m.cls → va_K g.1 vwCl (tyG g) s → (∀ q, s.heap.size ≤ q → A q) →
      (∀ (r : Int32) (w : va_W) (H : Heap) (locs : List Loc) (ls : Array Slot) (pc : Nat), decode cc pc = .ok (.ireturn, 1) → post r w → va_P g.1 vwCl w H → va_D A w → va_S A s.heap H locs → W p l e rm s m args below meth c H locs 0 0 Z (F0 m pc ls [.int r])) →
      ∀ (H : Heap) (locs : List Loc) (ls : Array Slot), va_P g.1 vwCl wd H → va_D A wd → va_S A s.heap H locs → lv_has ls maxL (lv_args 0 av) → W p l e rm s m args below meth c H locs 0 0 Z (F0 m 0 ls [])) : Ci l y ws rm g av wd post := by
  intro sz
  refine Met.ofW (cc := cc) (maxL := maxL) (ret := some .int) hy hw ?_
  intro p e s m args below meth c s₁ B hml hv
  obtain ⟨rfl, hsz, hP, hK, hD0⟩ := hv
  have hx := B.exec
  have hb := B.bytes
  have hr := B.returns
  have hts := atoms_spec (ws := ws) B.pre
  have hown : s.vm.findClass y.cls = some m.cls := findClass_of_methodNamed B.named
  have hlocks := B.notSynchronized
  subst hsz
  have hD := hD0.self (sz := s.heap.size)
  generalize hAe : va_A wd s.heap.size = A at hD ⊢
  have hA : ∀ q : Nat, s.heap.size ≤ q → A q := fun q h => by rw [← hAe]; exact Or.inr h
  have hl := lv_entry av (n := maxL) hn
  rw [lg_entry_eq]
  exact body p e s m av.toArray below meth c A _ hx hb hml hts hown hK hA (fun r w H locs ls pc hd hp hP hD hS =>
    W.iret (v := r) hx hb hr (fun t ht hW => ⟨⟨r, w, rfl, hp, by rw [ht]; exact hP, va_K.moved hW.alike hK, hD⟩, hS.F ht⟩) hS.2.2 hd) _ _ _ hP hD va_S.rf hl
theorem nar_z {v : Int32} (h : v = 0 ∨ v = 1) : narrow .boolean (.int v) = .int v := by
  rcases h with rfl | rfl <;> rfl
theorem Ci.ofZ {post : Int32 → va_W → Prop} (hy : plainName y.cls = true) (hw : ws = Cond.code y cc maxL (some .boolean) :: ws') (hn : (lg_sl av).length ≤ maxL)
    (body : ∀ (p : Program) (e : Env) (s : State) (m : MethodId) (args : Array Value) (below : List Frame) (meth : Method) (c : Code) (A : Nat → Prop) (Z : State → Prop),
      p.tables.exec = Jvm.exec → c.code = cc → c.maxLocals = maxL → (∀ w ∈ ws, w.before args s = true) → s.vm.findClass y.cls = some m.cls → va_K g.1 vwCl (tyG g) s → (∀ q, s.heap.size ≤ q → A q) →
      (∀ (r : Int32) (w : va_W) (H : Heap) (locs : List Loc) (ls : Array Slot) (pc : Nat), decode cc pc = .ok (.ireturn, 1) → (r = 0 ∨ r = 1) → post r w → va_P g.1 vwCl w H → va_D A w → va_S A s.heap H locs → W p l e rm s m args below meth c H locs 0 0 Z (F0 m pc ls [.int r])) →
      ∀ (H : Heap) (locs : List Loc) (ls : Array Slot), va_P g.1 vwCl wd H → va_D A wd → va_S A s.heap H locs → lv_has ls maxL (lv_args 0 av) → W p l e rm s m args below meth c H locs 0 0 Z (F0 m 0 ls [])) : Ci l y ws rm g av wd post := by
  intro sz
  refine Met.ofW (cc := cc) (maxL := maxL) (ret := some .boolean) hy hw ?_
  intro p e s m args below meth c s₁ B hml hv
  obtain ⟨rfl, hsz, hP, hK, hD0⟩ := hv
  have hx := B.exec
  have hb := B.bytes
  have hr := B.returns
  have hts := atoms_spec (ws := ws) B.pre
  have hown : s.vm.findClass y.cls = some m.cls := findClass_of_methodNamed B.named
  have hlocks := B.notSynchronized
  subst hsz
  have hD := hD0.self (sz := s.heap.size)
  generalize hAe : va_A wd s.heap.size = A at hD ⊢
  have hA : ∀ q : Nat, s.heap.size ≤ q → A q := fun q h => by rw [← hAe]; exact Or.inr h
  have hl := lv_entry av (n := maxL) hn
  rw [lg_entry_eq]
  exact body p e s m av.toArray below meth c A _ hx hb hml hts hown hK hA (fun r w H locs ls pc hd hz hp hP hD hS =>
    W.zret (v := r) hx hb hr (nar_z hz) (fun t ht hW => ⟨⟨r, w, rfl, hp, by rw [ht]; exact hP, va_K.moved hW.alike hK, hD⟩, hS.F ht⟩) hS.2.2 hd) _ _ _ hP hD va_S.rf hl
theorem Cl.ofL {post : Int64 → va_W → Prop} (hy : plainName y.cls = true) (hw : ws = Cond.code y cc maxL (some .long) :: ws') (hn : (lg_sl av).length ≤ maxL)
    (body : ∀ (p : Program) (e : Env) (s : State) (m : MethodId) (args : Array Value) (below : List Frame) (meth : Method) (c : Code) (A : Nat → Prop) (Z : State → Prop),
      p.tables.exec = Jvm.exec → c.code = cc → c.maxLocals = maxL → (∀ w ∈ ws, w.before args s = true) → s.vm.findClass y.cls = some m.cls → va_K g.1 vwCl (tyG g) s → (∀ q, s.heap.size ≤ q → A q) →
      (∀ (r : Int64) (w : va_W) (H : Heap) (locs : List Loc) (ls : Array Slot) (pc : Nat), decode cc pc = .ok (.lreturn, 1) → post r w → va_P g.1 vwCl w H → va_D A w → va_S A s.heap H locs → W p l e rm s m args below meth c H locs 0 0 Z (F0 m pc ls [.long r])) →
      ∀ (H : Heap) (locs : List Loc) (ls : Array Slot), va_P g.1 vwCl wd H → va_D A wd → va_S A s.heap H locs → lv_has ls maxL (lv_args 0 av) → W p l e rm s m args below meth c H locs 0 0 Z (F0 m 0 ls [])) : Cl l y ws rm g av wd post := by
  intro sz
  refine Met.ofW (cc := cc) (maxL := maxL) (ret := some .long) hy hw ?_
  intro p e s m args below meth c s₁ B hml hv
  obtain ⟨rfl, hsz, hP, hK, hD0⟩ := hv
  have hx := B.exec
  have hb := B.bytes
  have hr := B.returns
  have hts := atoms_spec (ws := ws) B.pre
  have hown : s.vm.findClass y.cls = some m.cls := findClass_of_methodNamed B.named
  have hlocks := B.notSynchronized
  subst hsz
  have hD := hD0.self (sz := s.heap.size)
  generalize hAe : va_A wd s.heap.size = A at hD ⊢
  have hA : ∀ q : Nat, s.heap.size ≤ q → A q := fun q h => by rw [← hAe]; exact Or.inr h
  have hl := lv_entry av (n := maxL) hn
  rw [lg_entry_eq]
  exact body p e s m av.toArray below meth c A _ hx hb hml hts hown hK hA (fun r w H locs ls pc hd hp hP hD hS =>
    W.lret (v := r) hx hb hr (fun t ht hW => ⟨⟨r, w, rfl, hp, by rw [ht]; exact hP, va_K.moved hW.alike hK, hD⟩, hS.F ht⟩) hS.2.2 hd) _ _ _ hP hD va_S.rf hl
theorem Cv.ofV {post : va_W → Prop} (hy : plainName y.cls = true) (hw : ws = Cond.code y cc maxL none :: ws') (hn : (lg_sl av).length ≤ maxL)
    (body : ∀ (p : Program) (e : Env) (s : State) (m : MethodId) (args : Array Value) (below : List Frame) (meth : Method) (c : Code) (A : Nat → Prop) (Z : State → Prop),
      p.tables.exec = Jvm.exec → c.code = cc → c.maxLocals = maxL → (∀ w ∈ ws, w.before args s = true) → s.vm.findClass y.cls = some m.cls → va_K g.1 vwCl (tyG g) s → (∀ q, s.heap.size ≤ q → A q) →
      (∀ (w : va_W) (H : Heap) (locs : List Loc) (ls : Array Slot) (pc : Nat), decode cc pc = .ok (.return_, 1) → post w → va_P g.1 vwCl w H → va_D A w → va_S A s.heap H locs → W p l e rm s m args below meth c H locs 0 0 Z (F0 m pc ls [])) →
      ∀ (H : Heap) (locs : List Loc) (ls : Array Slot), va_P g.1 vwCl wd H → va_D A wd → va_S A s.heap H locs → lv_has ls maxL (lv_args 0 av) → W p l e rm s m args below meth c H locs 0 0 Z (F0 m 0 ls [])) : Cv l y ws rm g av wd post := by
  intro sz
  refine Met.ofW (cc := cc) (maxL := maxL) (ret := none) hy hw ?_
  intro p e s m args below meth c s₁ B hml hv
  obtain ⟨rfl, hsz, hP, hK, hD0⟩ := hv
  have hx := B.exec
  have hb := B.bytes
  have hr := B.returns
  have hts := atoms_spec (ws := ws) B.pre
  have hown : s.vm.findClass y.cls = some m.cls := findClass_of_methodNamed B.named
  have hlocks := B.notSynchronized
  subst hsz
  have hD := hD0.self (sz := s.heap.size)
  generalize hAe : va_A wd s.heap.size = A at hD ⊢
  have hA : ∀ q : Nat, s.heap.size ≤ q → A q := fun q h => by rw [← hAe]; exact Or.inr h
  have hl := lv_entry av (n := maxL) hn
  rw [lg_entry_eq]
  exact body p e s m av.toArray below meth c A _ hx hb hml hts hown hK hA (fun w H locs ls pc hd hp hP hD hS =>
    W.vret hx hb hr (fun t ht hW => ⟨⟨w, rfl, hp, by rw [ht]; exact hP, va_K.moved hW.alike hK, hD⟩, hS.F ht⟩) hS.2.2 hd) _ _ _ hP hD va_S.rf hl
end BASE
