/-! THE JUDGEMENT Go: from pc of method M, with locals lv, operands st and abstract heap h, the machine comes to a return of M with K answer heap -/
/-- a method: own class, name, code, locals, what it returns -/
abbrev MI : Type := String × MethodName × ByteArray × Nat × Option FieldType
def Tg : List Cond := lw_tbl.filter goodWord
theorem tg_mem {w : Cond} (i : Nat) (h : lw_tbl[i]? = some w) (hg : goodWord w = true) : w ∈ Tg := List.mem_filter.mpr ⟨List.mem_of_getElem? h, hg⟩
theorem tg_tbl {w : Cond} (h : w ∈ Tg) : w ∈ lw_tbl := (List.mem_filter.mp h).1
def wsM (M : MI) : List Cond := Cond.code M.2.1 M.2.2.1 M.2.2.2.1 M.2.2.2.2 :: Tg
def rmD (d c n : Nat) : Room := { frames := d, cells := c, slots := n, locals := 41 * d }
abbrev un : Value := .retAddr 0
/-- the bytes of the constant texts, and where they are named -/
def strT (j : Nat) : List Int32 := match j with
  | 0 => [116, 114, 117, 99, 107]
  | 1 => [98, 108, 97, 115, 116]
  | 2 => [113, 117, 97, 107, 101]
  | 3 => [119, 104, 101, 110]
  | 4 => [111, 114]
  | 5 => [97, 110, 100]
  | 6 => [110, 111, 116]
  | 7 => [104, 111, 117, 114]
  | 8 => [100, 97, 121]
  | 9 => [112, 101, 97, 107]
  | 10 => [108, 101, 110, 103, 116, 104]
  | 11 => [99, 114, 111, 115, 115, 105, 110, 103, 115]
  | 12 => [114, 105, 115, 101]
  | 13 => [99, 108, 105, 112, 112, 101, 100]
  | _ => [59, 43, 45, 42, 47, 40, 41, 60, 61, 62]
def siteL : List (String × Nat × String × Nat) := [(RX9, 171, "truck", 0), (RX9, 173, "blast", 1), (RX9, 175, "quake", 2), (RX9, 177, "when", 3), (RX9, 179, "or", 4), (RX9, 181, "and", 5), (RX9, 183, "not", 6), (RX9, 185, "hour", 7), (RX9, 187, "day", 8), (RX9, 189, "peak", 9), (RX9, 191, "length", 10), (RX9, 192, "crossings", 11), (RX9, 194, "rise", 12), (RX9, 196, "clipped", 13), (RX9, 149, ";+-*/()<=>", 14), (RX12, 222, "truck", 0), (RX12, 228, "blast", 1), (RX12, 230, "quake", 2), (RX12, 232, "when", 3), (RX12, 234, "or", 4), (RX12, 236, "and", 5), (RX12, 238, "not", 6), (RX12, 240, "hour", 7), (RX12, 242, "day", 8), (RX12, 244, "peak", 9), (RX12, 245, "length", 10), (RX12, 246, "crossings", 11), (RX12, 248, "rise", 12), (RX12, 250, "clipped", 13)]
def fmV (G : GC) : Value := if gx G 41 = 0 then .null else .ref 40
def ExS (G : GC) (U : State) (H : Heap) (j : Nat) : Prop := va_O "java/lang/String" (gx G (1 + 2 * j)) (gA G) U H ∧ va_OF "java/lang/String" "value" "[B" (.ref (gx G (2 + 2 * j))) (gx G (1 + 2 * j)) (gA G) U H ∧ va_OF "java/lang/String" "coder" "B" (.int 0) (gx G (1 + 2 * j)) (gA G) U H ∧ va_T .byte (gx G (2 + 2 * j)) (strT j).length (fun k => .int ((strT j).getD k 0)) (gA G) U H
/-- what was there before us and stays: the script, array classes, links to nest mates, the constant texts, two statics -/
def Ex (G : GC) (U : State) (H : Heap) : Prop := (va_X (gx G 0) (gL G) (gX G) U H ∧ gx G 0 < gb G) ∧ (va_AO RX2 U ∧ va_AO RX5 U ∧ va_AO RX6 U) ∧
  (va_Nw (.methodLinkNest RX11 24 yX7_init RX11) U ∧ va_Nw (.methodLinkNest RX5 24 yX6_init RX11) U ∧ va_Nw (.methodLinkNest RX10 16 yX11_within RX11) U) ∧
  (∀ q ∈ siteL, vk_R q.1 q.2.1 q.2.2.1 (gx G (1 + 2 * q.2.2.2)) U) ∧ (∀ j, j < 15 → ExS G U H j) ∧
  va_Z "java/lang/String" "COMPACT_STRINGS" "Z" (.int 1) (gA G) U H ∧ va_Z "jdk/internal/util/Preconditions" "SIOOBE_FORMATTER" "Ljava/util/function/BiFunction;" (cv G (fmV G)) (gA G) U H
theorem Ex.warm {G : GC} {s U : State} {H : Heap} (hW : s.WarmedH U.vm) (h : Ex G s H) : Ex G U H := by
  obtain ⟨h1, h2, h3, h4, h5, h6, h7⟩ := h
  exact ⟨⟨va_X.moved hW.alike h1.1, h1.2⟩, ⟨va_AO.moved hW.alike h2.1, va_AO.moved hW.alike h2.2.1, va_AO.moved hW.alike h2.2.2⟩, ⟨va_Nw.warmM hW h3.1, va_Nw.warmM hW h3.2.1, va_Nw.warmM hW h3.2.2⟩, fun q hq => vk_R.warm hW (h4 q hq), fun j hj => ⟨va_O.moved hW.alike (h5 j hj).1, va_OF.moved hW.alike (h5 j hj).2.1, va_OF.moved hW.alike (h5 j hj).2.2.1, va_T.moved hW.alike (h5 j hj).2.2.2⟩, va_Z.moved hW.alike h6, va_Z.moved hW.alike h7⟩
theorem Ex.kept {G : GC} {U : State} {H H1 : Heap} (h : Ex G U H) (hq : ∀ a : Nat, a < H.size → ¬ gA G a → H1[a]? = H[a]?) : Ex G U H1 := by
  obtain ⟨h1, h2, h3, h4, h5, h6, h7⟩ := h
  refine ⟨⟨va_X.kept h1.1 ?_, h1.2⟩, h2, h3, h4, fun j hj => ⟨va_O.kept (h5 j hj).1 hq, va_OF.kept (h5 j hj).2.1 hq, va_OF.kept (h5 j hj).2.2.1 hq, va_T.kept (h5 j hj).2.2.2 hq⟩, va_Z.kept h6 hq, va_Z.kept h7 hq⟩
  obtain ⟨scr, h1', -⟩ := h1.1
  exact hq _ (Array.getElem?_eq_some_iff.mp h1').1 (Nat.not_le.mpr h1.2)
theorem Ex.blind {G : GC} {U U' : State} {H : Heap} (hv : U'.vm = U.vm) (h : Ex G U H) : Ex G U' H := by
  have hA : U.vm.Alike U'.vm := by rw [hv]; exact Vm.Alike.refl U.vm
  obtain ⟨h1, h2, h3, h4, h5, h6, h7⟩ := h
  exact ⟨⟨va_X.moved hA h1.1, h1.2⟩, ⟨va_AO.moved hA h2.1, va_AO.moved hA h2.2.1, va_AO.moved hA h2.2.2⟩, ⟨va_Nw.same rfl hv.symm h3.1, va_Nw.same rfl hv.symm h3.2.1, va_Nw.same rfl hv.symm h3.2.2⟩, fun q hq => vk_R.same hv (h4 q hq), fun j hj => ⟨va_O.moved hA (h5 j hj).1, va_OF.moved hA (h5 j hj).2.1, va_OF.moved hA (h5 j hj).2.2.1, va_T.moved hA (h5 j hj).2.2.2⟩, va_Z.moved hA h6, va_Z.moved hA h7⟩
def Fr (G : GC) (M : MI) (p : Program) (s : State) (m : MethodId) (args : Array Value) (meth : Method) (c : Code) : Prop :=
  p.tables.exec = Jvm.exec ∧ c.code = M.2.2.1 ∧ c.maxLocals = M.2.2.2.1 ∧ s.vm.findClass M.1 = some m.cls ∧ (∀ w ∈ Tg, w.before args s = true) ∧ meth.sig.returnType = M.2.2.2.2 ∧ meth.locks = false ∧ meth.name = M.2.1.name ∧ va_K (gD G) vwCl (tyL G) s ∧ Ex G s s.heap ∧ gb G ≤ s.heap.size
def Sr (G : GC) (h : HS) (s : State) (H : Heap) (locs : List Loc) : Prop := H.size = gb G + hN h ∧ va_P (gD G) vwCl (cw G h) H ∧ va_S (gA G) s.heap H locs
def Lr (G : GC) (M : MI) (ls : Array Slot) (lv : List Value) : Prop := ls.size = M.2.2.2.1 ∧ lv_wf ls ∧ lv.length = M.2.2.2.1 ∧ ∀ (i : Nat) (v : Value), lv[i]? = some v → v ≠ un → ls[i]? = some (.val (cv G v))
/-- a return stands at pc, and answers r -/
def Ends (M : MI) (pc : Nat) (r : Option Value) : Prop :=
  (∃ (v : Int32) (ty : FieldType), r = some (.int v) ∧ M.2.2.2.2 = some ty ∧ narrow ty (.int v) = .int v ∧ decode M.2.2.1 pc = .ok (.ireturn, 1)) ∨
  (∃ v : Int64, r = some (.long v) ∧ M.2.2.2.2 = some .long ∧ decode M.2.2.1 pc = .ok (.lreturn, 1)) ∨
  (∃ (v : Option Nat) (C : String), r = some (va_rf v) ∧ M.2.2.2.2 = some (.object C) ∧ decode M.2.2.1 pc = .ok (.areturn, 1)) ∨
  (r = none ∧ M.2.2.2.2 = none ∧ decode M.2.2.1 pc = .ok (.return_, 1))
def Go (G : GC) (d mc ms : Nat) (M : MI) (pc : Nat) (lv st : List Value) (h : HS) (K : Option Value → HS → Prop) : Prop :=
  ∀ (p : Program) (e : Env) (s : State) (m : MethodId) (args : Array Value) (below : List Frame) (meth : Method) (c : Code) (R : Room) (H : Heap) (locs : List Loc) (cells slots : Nat) (Q : State → Prop) (ls : Array Slot),
    Fr G M p s m args meth c → Sr G h s H locs → Lr G M ls lv → d ≤ R.frames → 41 * d ≤ R.locals → cells + mc ≤ R.cells → slots + ms ≤ R.slots →
    (∀ (r : Option Value) (h' : HS) (pc' : Nat) (H' : Heap) (locs' : List Loc) (cells' slots' : Nat) (ls' : Array Slot), Ends M pc' r → K r h' → Sr G h' s H' locs' → cells' ≤ cells + mc → slots' ≤ slots + ms →
      W p (gl G) e R s m args below meth c H' locs' cells' slots' Q (F0 m pc' ls' (r.toList.map (cv G)))) →
    W p (gl G) e R s m args below meth c H locs cells slots Q (F0 m pc ls (st.map (cv G)))
section GoA
variable {G : GC} {d mc ms : Nat} {M : MI} {pc pc' tgt : Nat} {lv st : List Value} {h : HS} {K : Option Value → HS → Prop} {x y : Int32} {X Y : Int64}
theorem Go.pure {st' : List Value} (hh : ∀ (p : Program) (e : Env) (s : State) (m : MethodId) (args : Array Value) (below : List Frame) (meth : Method) (c : Code) (R : Room) (H : Heap) (locs : List Loc) (cells slots : Nat) (Q : State → Prop) (ls : Array Slot), Fr G M p s m args meth c → Lr G M ls lv → W p (gl G) e R s m args below meth c H locs cells slots Q (F0 m pc' ls (st'.map (cv G))) → W p (gl G) e R s m args below meth c H locs cells slots Q (F0 m pc ls (st.map (cv G))))
    (k : Go G d mc ms M pc' lv st' h K) : Go G d mc ms M pc lv st h K :=
  fun p e s m args below meth c R H locs cells slots Q ls f1 f2 f3 a b c1 c2 q => hh p e s m args below meth c R H locs cells slots Q ls f1 f3 (k p e s m args below meth c R H locs cells slots Q ls f1 f2 f3 a b c1 c2 q)
theorem Go.post {K' : Option Value → HS → Prop} (k : Go G d mc ms M pc lv st h K) (hK : ∀ r h', K r h' → K' r h') : Go G d mc ms M pc lv st h K' :=
  fun p e s m args below meth c R H locs cells slots Q ls f1 f2 f3 a b c1 c2 q => k p e s m args below meth c R H locs cells slots Q ls f1 f2 f3 a b c1 c2 (fun r h' pc' H' locs' cells' slots' ls' e1 e2 => q r h' pc' H' locs' cells' slots' ls' e1 (hK r h' e2))
theorem Go.more {d' mc' ms' : Nat} (k : Go G d mc ms M pc lv st h K) (h1 : d ≤ d') (h2 : mc ≤ mc') (h3 : ms ≤ ms') : Go G d' mc' ms' M pc lv st h K :=
  fun p e s m args below meth c R H locs cells slots Q ls f1 f2 f3 a b c1 c2 q => k p e s m args below meth c R H locs cells slots Q ls f1 f2 f3 (by omega) (by omega) (by omega) (by omega) (fun r h' pc' H' locs' cells' slots' ls' e1 e2 e3 e4 e5 => q r h' pc' H' locs' cells' slots' ls' e1 e2 e3 (by omega) (by omega))

theorem Go_iconst {n : Int} {v : Int32} (hd : decode M.2.2.1 pc = .ok (.iconst n, 1)) (hp : pc + 1 = pc') (hv : Int32.ofInt n = v) (k : Go G d mc ms M pc' lv (.int v :: st) h K) : Go G d mc ms M pc lv st h K := by
  subst hp
  exact Go.pure (fun _ _ _ _ _ _ _ _ _ _ _ _ _ _ _ F L k => lv_iconst F.1 F.2.1 hd hv k) k
theorem Go_bipush {n : Int} {v : Int32} (hd : decode M.2.2.1 pc = .ok (.bipush n, 2)) (hp : pc + 2 = pc') (hv : (Int8.ofInt n).toInt32 = v) (k : Go G d mc ms M pc' lv (.int v :: st) h K) : Go G d mc ms M pc lv st h K := by
  subst hp
  exact Go.pure (fun _ _ _ _ _ _ _ _ _ _ _ _ _ _ _ F L k => lv_bipush F.1 F.2.1 hd hv k) k
theorem Go_sipush {n : Int} {v : Int32} (hd : decode M.2.2.1 pc = .ok (.sipush n, 3)) (hp : pc + 3 = pc') (hv : (Int16.ofInt n).toInt32 = v) (k : Go G d mc ms M pc' lv (.int v :: st) h K) : Go G d mc ms M pc lv st h K := by
  subst hp
  exact Go.pure (fun _ _ _ _ _ _ _ _ _ _ _ _ _ _ _ F L k => lv_sipush F.1 F.2.1 hd hv k) k
theorem Go_lconst {n : Fin 2} {v : Int64} (hd : decode M.2.2.1 pc = .ok (.lconst n, 1)) (hp : pc + 1 = pc') (hv : Int64.ofNat (n : Nat) = v) (k : Go G d mc ms M pc' lv (.long v :: st) h K) : Go G d mc ms M pc lv st h K := by
  subst hp
  exact Go.pure (fun _ _ _ _ _ _ _ _ _ _ _ _ _ _ _ F L k => lv_lconst F.1 F.2.1 hd hv k) k
theorem Go_null (hd : decode M.2.2.1 pc = .ok (.aconst_null, 1)) (hp : pc + 1 = pc') (k : Go G d mc ms M pc' lv (.null :: st) h K) : Go G d mc ms M pc lv st h K := by
  subst hp
  exact Go.pure (fun _ _ _ _ _ _ _ _ _ _ _ _ _ _ _ F L k => lv_null F.1 F.2.1 hd k) k
theorem Go_ldc {i : Nat} {v : Int32} (hd : decode M.2.2.1 pc = .ok (.ldc i, 2)) (hp : pc + 2 = pc') (hw : Cond.constant M.1 i v ∈ Tg) (k : Go G d mc ms M pc' lv (.int v :: st) h K) : Go G d mc ms M pc lv st h K := by
  subst hp
  exact Go.pure (fun _ _ _ _ _ _ _ _ _ _ _ _ _ _ _ F L k => lv_ldc F.1 F.2.1 F.2.2.2.1 (F.2.2.2.2.1 _ hw) hd k) k
theorem Go_ldcw {i : Nat} {v : Int32} (hd : decode M.2.2.1 pc = .ok (.ldc_w i, 3)) (hp : pc + 3 = pc') (hw : Cond.constant M.1 i v ∈ Tg) (k : Go G d mc ms M pc' lv (.int v :: st) h K) : Go G d mc ms M pc lv st h K := by
  subst hp
  exact Go.pure (fun _ _ _ _ _ _ _ _ _ _ _ _ _ _ _ F L k => lv_ldcw F.1 F.2.1 F.2.2.2.1 (F.2.2.2.2.1 _ hw) hd k) k
theorem Go_ldc2 {i : Nat} {v : Int64} (hd : decode M.2.2.1 pc = .ok (.ldc2_w i, 3)) (hp : pc + 3 = pc') (hw : Cond.constantLong M.1 i v ∈ Tg) (k : Go G d mc ms M pc' lv (.long v :: st) h K) : Go G d mc ms M pc lv st h K := by
  subst hp
  exact Go.pure (fun _ _ _ _ _ _ _ _ _ _ _ _ _ _ _ F L k => lv_ldc2 F.1 F.2.1 F.2.2.2.1 (F.2.2.2.2.1 _ hw) hd k) k
theorem Go_iload_n {i : Fin 4} {j : Nat} (hd : decode M.2.2.1 pc = .ok (.iload_n i, 1)) (hp : pc + 1 = pc') (hi : (i : Nat) = j) (hl : lv[j]? = some (.int x)) (k : Go G d mc ms M pc' lv (.int x :: st) h K) : Go G d mc ms M pc lv st h K := by
  subst hp
  exact Go.pure (fun _ _ _ _ _ _ _ _ _ _ _ _ _ _ _ F L k => lv_iload_n F.1 F.2.1 hd hi (L.2.2.2 j (.int x) hl (by intro q; cases q)) k) k
theorem Go_iload {i : Nat} (hd : decode M.2.2.1 pc = .ok (.iload i, 2)) (hp : pc + 2 = pc') (hl : lv[i]? = some (.int x)) (k : Go G d mc ms M pc' lv (.int x :: st) h K) : Go G d mc ms M pc lv st h K := by
  subst hp
  exact Go.pure (fun _ _ _ _ _ _ _ _ _ _ _ _ _ _ _ F L k => lv_iload F.1 F.2.1 hd (L.2.2.2 i (.int x) hl (by intro q; cases q)) k) k
theorem Go_lload_n {i : Fin 4} {j : Nat} (hd : decode M.2.2.1 pc = .ok (.lload_n i, 1)) (hp : pc + 1 = pc') (hi : (i : Nat) = j) (hl : lv[j]? = some (.long X)) (k : Go G d mc ms M pc' lv (.long X :: st) h K) : Go G d mc ms M pc lv st h K := by
  subst hp
  exact Go.pure (fun _ _ _ _ _ _ _ _ _ _ _ _ _ _ _ F L k => lv_lload_n F.1 F.2.1 hd hi (L.2.2.2 j (.long X) hl (by intro q; cases q)) k) k
theorem Go_lload {i : Nat} (hd : decode M.2.2.1 pc = .ok (.lload i, 2)) (hp : pc + 2 = pc') (hl : lv[i]? = some (.long X)) (k : Go G d mc ms M pc' lv (.long X :: st) h K) : Go G d mc ms M pc lv st h K := by
  subst hp
  exact Go.pure (fun _ _ _ _ _ _ _ _ _ _ _ _ _ _ _ F L k => lv_lload F.1 F.2.1 hd (L.2.2.2 i (.long X) hl (by intro q; cases q)) k) k
theorem Go_aload_n {i : Fin 4} {j q : Nat} (hd : decode M.2.2.1 pc = .ok (.aload_n i, 1)) (hp : pc + 1 = pc') (hi : (i : Nat) = j) (hl : lv[j]? = some (.ref q)) (k : Go G d mc ms M pc' lv (.ref q :: st) h K) : Go G d mc ms M pc lv st h K := by
  subst hp
  exact Go.pure (fun _ _ _ _ _ _ _ _ _ _ _ _ _ _ _ F L k => lv_aload_n F.1 F.2.1 hd hi (L.2.2.2 j (.ref q) hl (by intro q; cases q)) k) k
theorem Go_aload {i q : Nat} (hd : decode M.2.2.1 pc = .ok (.aload i, 2)) (hp : pc + 2 = pc') (hl : lv[i]? = some (.ref q)) (k : Go G d mc ms M pc' lv (.ref q :: st) h K) : Go G d mc ms M pc lv st h K := by
  subst hp
  exact Go.pure (fun _ _ _ _ _ _ _ _ _ _ _ _ _ _ _ F L k => lv_aload F.1 F.2.1 hd (L.2.2.2 i (.ref q) hl (by intro q; cases q)) k) k
theorem Go_aload_nN {i : Fin 4} {j : Nat} (hd : decode M.2.2.1 pc = .ok (.aload_n i, 1)) (hp : pc + 1 = pc') (hi : (i : Nat) = j) (hl : lv[j]? = some .null) (k : Go G d mc ms M pc' lv (.null :: st) h K) : Go G d mc ms M pc lv st h K := by
  subst hp
  exact Go.pure (fun _ _ _ _ _ _ _ _ _ _ _ _ _ _ _ F L k => lv_aload_nN F.1 F.2.1 hd hi (L.2.2.2 j .null hl (by intro q; cases q)) k) k
theorem Go_aloadN {i : Nat} (hd : decode M.2.2.1 pc = .ok (.aload i, 2)) (hp : pc + 2 = pc') (hl : lv[i]? = some .null) (k : Go G d mc ms M pc' lv (.null :: st) h K) : Go G d mc ms M pc lv st h K := by
  subst hp
  exact Go.pure (fun _ _ _ _ _ _ _ _ _ _ _ _ _ _ _ F L k => lv_aloadN F.1 F.2.1 hd (L.2.2.2 i .null hl (by intro q; cases q)) k) k
theorem Go_iadd (hd : decode M.2.2.1 pc = .ok (.iadd, 1)) (hp : pc + 1 = pc') (k : Go G d mc ms M pc' lv (.int (x + y) :: st) h K) : Go G d mc ms M pc lv (.int y :: .int x :: st) h K := by
  subst hp
  exact Go.pure (fun _ _ _ _ _ _ _ _ _ _ _ _ _ _ _ F L k => lv_iadd F.1 F.2.1 hd k) k
theorem Go_isub (hd : decode M.2.2.1 pc = .ok (.isub, 1)) (hp : pc + 1 = pc') (k : Go G d mc ms M pc' lv (.int (x - y) :: st) h K) : Go G d mc ms M pc lv (.int y :: .int x :: st) h K := by
  subst hp
  exact Go.pure (fun _ _ _ _ _ _ _ _ _ _ _ _ _ _ _ F L k => lv_isub F.1 F.2.1 hd k) k
theorem Go_imul (hd : decode M.2.2.1 pc = .ok (.imul, 1)) (hp : pc + 1 = pc') (k : Go G d mc ms M pc' lv (.int (x * y) :: st) h K) : Go G d mc ms M pc lv (.int y :: .int x :: st) h K := by
  subst hp
  exact Go.pure (fun _ _ _ _ _ _ _ _ _ _ _ _ _ _ _ F L k => lv_imul F.1 F.2.1 hd k) k
theorem Go_iand (hd : decode M.2.2.1 pc = .ok (.iand, 1)) (hp : pc + 1 = pc') (k : Go G d mc ms M pc' lv (.int (x &&& y) :: st) h K) : Go G d mc ms M pc lv (.int y :: .int x :: st) h K := by
  subst hp
  exact Go.pure (fun _ _ _ _ _ _ _ _ _ _ _ _ _ _ _ F L k => lv_iand F.1 F.2.1 hd k) k
theorem Go_ior (hd : decode M.2.2.1 pc = .ok (.ior, 1)) (hp : pc + 1 = pc') (k : Go G d mc ms M pc' lv (.int (x ||| y) :: st) h K) : Go G d mc ms M pc lv (.int y :: .int x :: st) h K := by
  subst hp
  exact Go.pure (fun _ _ _ _ _ _ _ _ _ _ _ _ _ _ _ F L k => lv_ior F.1 F.2.1 hd k) k
theorem Go_ixor (hd : decode M.2.2.1 pc = .ok (.ixor, 1)) (hp : pc + 1 = pc') (k : Go G d mc ms M pc' lv (.int (x ^^^ y) :: st) h K) : Go G d mc ms M pc lv (.int y :: .int x :: st) h K := by
  subst hp
  exact Go.pure (fun _ _ _ _ _ _ _ _ _ _ _ _ _ _ _ F L k => lv_ixor F.1 F.2.1 hd k) k
theorem Go_ishl (hd : decode M.2.2.1 pc = .ok (.ishl, 1)) (hp : pc + 1 = pc') (k : Go G d mc ms M pc' lv (.int (x <<< (y &&& 31)) :: st) h K) : Go G d mc ms M pc lv (.int y :: .int x :: st) h K := by
  subst hp
  exact Go.pure (fun _ _ _ _ _ _ _ _ _ _ _ _ _ _ _ F L k => lv_ishl F.1 F.2.1 hd k) k
theorem Go_ishr (hd : decode M.2.2.1 pc = .ok (.ishr, 1)) (hp : pc + 1 = pc') (k : Go G d mc ms M pc' lv (.int (x >>> (y &&& 31)) :: st) h K) : Go G d mc ms M pc lv (.int y :: .int x :: st) h K := by
  subst hp
  exact Go.pure (fun _ _ _ _ _ _ _ _ _ _ _ _ _ _ _ F L k => lv_ishr F.1 F.2.1 hd k) k
theorem Go_iushr (hd : decode M.2.2.1 pc = .ok (.iushr, 1)) (hp : pc + 1 = pc') (k : Go G d mc ms M pc' lv (.int ((x.toUInt32 >>> (y.toUInt32 &&& Int32.toUInt32 31)).toInt32) :: st) h K) : Go G d mc ms M pc lv (.int y :: .int x :: st) h K := by
  subst hp
  exact Go.pure (fun _ _ _ _ _ _ _ _ _ _ _ _ _ _ _ F L k => lv_iushr F.1 F.2.1 hd rfl k) k
theorem Go_idiv (hd : decode M.2.2.1 pc = .ok (.idiv, 1)) (hp : pc + 1 = pc') (hne : ¬ y = 0) (k : Go G d mc ms M pc' lv (.int (x / y) :: st) h K) : Go G d mc ms M pc lv (.int y :: .int x :: st) h K := by
  subst hp
  exact Go.pure (fun _ _ _ _ _ _ _ _ _ _ _ _ _ _ _ F L k => lv_idiv F.1 F.2.1 hd hne k) k
theorem Go_irem (hd : decode M.2.2.1 pc = .ok (.irem, 1)) (hp : pc + 1 = pc') (hne : ¬ y = 0) (k : Go G d mc ms M pc' lv (.int (x - x / y * y) :: st) h K) : Go G d mc ms M pc lv (.int y :: .int x :: st) h K := by
  subst hp
  exact Go.pure (fun _ _ _ _ _ _ _ _ _ _ _ _ _ _ _ F L k => lv_irem F.1 F.2.1 hd hne k) k
theorem Go_ineg (hd : decode M.2.2.1 pc = .ok (.ineg, 1)) (hp : pc + 1 = pc') (k : Go G d mc ms M pc' lv (.int (-x) :: st) h K) : Go G d mc ms M pc lv (.int x :: st) h K := by
  subst hp
  exact Go.pure (fun _ _ _ _ _ _ _ _ _ _ _ _ _ _ _ F L k => lv_ineg F.1 F.2.1 hd k) k
theorem Go_ladd (hd : decode M.2.2.1 pc = .ok (.ladd, 1)) (hp : pc + 1 = pc') (k : Go G d mc ms M pc' lv (.long (X + Y) :: st) h K) : Go G d mc ms M pc lv (.long Y :: .long X :: st) h K := by
  subst hp
  exact Go.pure (fun _ _ _ _ _ _ _ _ _ _ _ _ _ _ _ F L k => lv_ladd F.1 F.2.1 hd k) k
theorem Go_lsub (hd : decode M.2.2.1 pc = .ok (.lsub, 1)) (hp : pc + 1 = pc') (k : Go G d mc ms M pc' lv (.long (X - Y) :: st) h K) : Go G d mc ms M pc lv (.long Y :: .long X :: st) h K := by
  subst hp
  exact Go.pure (fun _ _ _ _ _ _ _ _ _ _ _ _ _ _ _ F L k => lv_lsub F.1 F.2.1 hd k) k
theorem Go_lmul (hd : decode M.2.2.1 pc = .ok (.lmul, 1)) (hp : pc + 1 = pc') (k : Go G d mc ms M pc' lv (.long (X * Y) :: st) h K) : Go G d mc ms M pc lv (.long Y :: .long X :: st) h K := by
  subst hp
  exact Go.pure (fun _ _ _ _ _ _ _ _ _ _ _ _ _ _ _ F L k => lv_lmul F.1 F.2.1 hd k) k
theorem Go_ldiv (hd : decode M.2.2.1 pc = .ok (.ldiv, 1)) (hp : pc + 1 = pc') (hne : ¬ Y = 0) (k : Go G d mc ms M pc' lv (.long (X / Y) :: st) h K) : Go G d mc ms M pc lv (.long Y :: .long X :: st) h K := by
  subst hp
  exact Go.pure (fun _ _ _ _ _ _ _ _ _ _ _ _ _ _ _ F L k => lv_ldiv F.1 F.2.1 hd hne k) k
theorem Go_lshl (hd : decode M.2.2.1 pc = .ok (.lshl, 1)) (hp : pc + 1 = pc') (k : Go G d mc ms M pc' lv (.long (X <<< (y.toInt64 &&& 63)) :: st) h K) : Go G d mc ms M pc lv (.int y :: .long X :: st) h K := by
  subst hp
  exact Go.pure (fun _ _ _ _ _ _ _ _ _ _ _ _ _ _ _ F L k => lv_lshl F.1 F.2.1 hd rfl k) k
theorem Go_lshr (hd : decode M.2.2.1 pc = .ok (.lshr, 1)) (hp : pc + 1 = pc') (k : Go G d mc ms M pc' lv (.long (X >>> (y.toInt64 &&& 63)) :: st) h K) : Go G d mc ms M pc lv (.int y :: .long X :: st) h K := by
  subst hp
  exact Go.pure (fun _ _ _ _ _ _ _ _ _ _ _ _ _ _ _ F L k => lv_lshr F.1 F.2.1 hd rfl k) k
theorem Go_lcmp (hd : decode M.2.2.1 pc = .ok (.lcmp, 1)) (hp : pc + 1 = pc') (k : Go G d mc ms M pc' lv (.int (lg_cmp X Y) :: st) h K) : Go G d mc ms M pc lv (.long Y :: .long X :: st) h K := by
  subst hp
  exact Go.pure (fun _ _ _ _ _ _ _ _ _ _ _ _ _ _ _ F L k => W.lcmp F.1 F.2.1 hd k) k
theorem Go_i2l (hd : decode M.2.2.1 pc = .ok (.i2l, 1)) (hp : pc + 1 = pc') (k : Go G d mc ms M pc' lv (.long x.toInt64 :: st) h K) : Go G d mc ms M pc lv (.int x :: st) h K := by
  subst hp
  exact Go.pure (fun _ _ _ _ _ _ _ _ _ _ _ _ _ _ _ F L k => lv_i2l F.1 F.2.1 hd rfl k) k
theorem Go_l2i (hd : decode M.2.2.1 pc = .ok (.l2i, 1)) (hp : pc + 1 = pc') (k : Go G d mc ms M pc' lv (.int X.toInt32 :: st) h K) : Go G d mc ms M pc lv (.long X :: st) h K := by
  subst hp
  exact Go.pure (fun _ _ _ _ _ _ _ _ _ _ _ _ _ _ _ F L k => lv_l2i F.1 F.2.1 hd rfl k) k
theorem Go_i2b (hd : decode M.2.2.1 pc = .ok (.i2b, 1)) (hp : pc + 1 = pc') (k : Go G d mc ms M pc' lv (.int x.toInt8.toInt32 :: st) h K) : Go G d mc ms M pc lv (.int x :: st) h K := by
  subst hp
  exact Go.pure (fun _ _ _ _ _ _ _ _ _ _ _ _ _ _ _ F L k => lv_i2b F.1 F.2.1 hd rfl k) k
theorem Go_i2c (hd : decode M.2.2.1 pc = .ok (.i2c, 1)) (hp : pc + 1 = pc') (k : Go G d mc ms M pc' lv (.int (x.toUInt32 % 65536).toInt32 :: st) h K) : Go G d mc ms M pc lv (.int x :: st) h K := by
  subst hp
  exact Go.pure (fun _ _ _ _ _ _ _ _ _ _ _ _ _ _ _ F L k => lv_i2c F.1 F.2.1 hd rfl k) k
theorem Go_dup {v : Value} (hd : decode M.2.2.1 pc = .ok (.dup, 1)) (hp : pc + 1 = pc') (hc : v.category = 1) (k : Go G d mc ms M pc' lv (v :: v :: st) h K) : Go G d mc ms M pc lv (v :: st) h K := by
  subst hp
  exact Go.pure (fun _ _ _ _ _ _ _ _ _ _ _ _ _ _ _ F L k => lv_dup F.1 F.2.1 hd (by rw [cv_cat]; exact hc) k) k
theorem Go_pop {v : Value} (hd : decode M.2.2.1 pc = .ok (.pop, 1)) (hp : pc + 1 = pc') (hc : v.category = 1) (k : Go G d mc ms M pc' lv st h K) : Go G d mc ms M pc lv (v :: st) h K := by
  subst hp
  exact Go.pure (fun _ _ _ _ _ _ _ _ _ _ _ _ _ _ _ F L k => lv_pop F.1 F.2.1 hd (by rw [cv_cat]; exact hc) k) k
theorem Go_dup2 {v w : Value} (hd : decode M.2.2.1 pc = .ok (.dup2, 1)) (hp : pc + 1 = pc') (hc : v.category = 1) (hc2 : w.category = 1) (k : Go G d mc ms M pc' lv (v :: w :: v :: w :: st) h K) : Go G d mc ms M pc lv (v :: w :: st) h K := by
  subst hp
  exact Go.pure (fun _ _ _ _ _ _ _ _ _ _ _ _ _ _ _ F L k => lv_dup2_11 F.1 F.2.1 hd (by rw [cv_cat]; exact hc) (by rw [cv_cat]; exact hc2) k) k
theorem Go_goto {off : Int} (hd : decode M.2.2.1 pc = .ok (.goto off, 3)) (ht : (pc : Int) + off = (tgt : Int)) (k : Go G d mc ms M tgt lv st h K) : Go G d mc ms M pc lv st h K :=
  Go.pure (fun _ _ _ _ _ _ _ _ _ _ _ _ _ _ _ F _ k => lv_goto F.1 F.2.1 hd ht k) k
theorem Go_ifnull {off : Int} {q : Nat} (hd : decode M.2.2.1 pc = .ok (.ifnull off, 3)) (hp : pc + 3 = pc') (k : Go G d mc ms M pc' lv st h K) : Go G d mc ms M pc lv (.ref q :: st) h K := by
  subst hp
  exact Go.pure (fun _ _ _ _ _ _ _ _ _ _ _ _ _ _ _ F _ k => lv_ifnull F.1 F.2.1 hd k) k
theorem Go_ifnullN {off : Int} (hd : decode M.2.2.1 pc = .ok (.ifnull off, 3)) (ht : (pc : Int) + off = (tgt : Int)) (k : Go G d mc ms M tgt lv st h K) : Go G d mc ms M pc lv (.null :: st) h K :=
  Go.pure (fun _ _ _ _ _ _ _ _ _ _ _ _ _ _ _ F _ k => lv_ifnullN F.1 F.2.1 hd ht k) k
theorem Go_ifnonnull {off : Int} {q : Nat} (hd : decode M.2.2.1 pc = .ok (.ifnonnull off, 3)) (ht : (pc : Int) + off = (tgt : Int)) (k : Go G d mc ms M tgt lv st h K) : Go G d mc ms M pc lv (.ref q :: st) h K :=
  Go.pure (fun _ _ _ _ _ _ _ _ _ _ _ _ _ _ _ F _ k => lv_ifnonnull F.1 F.2.1 hd ht k) k
theorem Go_ifnonnullN {off : Int} (hd : decode M.2.2.1 pc = .ok (.ifnonnull off, 3)) (hp : pc + 3 = pc') (k : Go G d mc ms M pc' lv st h K) : Go G d mc ms M pc lv (.null :: st) h K := by
  subst hp
  exact Go.pure (fun _ _ _ _ _ _ _ _ _ _ _ _ _ _ _ F _ k => lv_ifnonnullN F.1 F.2.1 hd k) k
theorem Go_if_eq {off : Int} (hd : decode M.2.2.1 pc = .ok (.ifCond .eq off, 3)) (ht : (pc : Int) + off = (tgt : Int)) (hp : pc + 3 = pc') (kt : x = 0 → Go G d mc ms M tgt lv st h K) (kf : ¬ x = 0 → Go G d mc ms M pc' lv st h K) : Go G d mc ms M pc lv (.int x :: st) h K := by
  subst hp
  exact fun p e s m args below meth c R H locs cells slots Q ls f1 f2 f3 a b c1 c2 q => lv_if_eq f1.1 f1.2.1 hd ht (fun z => kt z p e s m args below meth c R H locs cells slots Q ls f1 f2 f3 a b c1 c2 q) (fun z => kf z p e s m args below meth c R H locs cells slots Q ls f1 f2 f3 a b c1 c2 q)
theorem Go_icmp_eq {off : Int} (hd : decode M.2.2.1 pc = .ok (.if_icmp .eq off, 3)) (ht : (pc : Int) + off = (tgt : Int)) (hp : pc + 3 = pc') (kt : x = y → Go G d mc ms M tgt lv st h K) (kf : ¬ x = y → Go G d mc ms M pc' lv st h K) : Go G d mc ms M pc lv (.int y :: .int x :: st) h K := by
  subst hp
  exact fun p e s m args below meth c R H locs cells slots Q ls f1 f2 f3 a b c1 c2 q => lv_icmp_eq f1.1 f1.2.1 hd ht (fun z => kt z p e s m args below meth c R H locs cells slots Q ls f1 f2 f3 a b c1 c2 q) (fun z => kf z p e s m args below meth c R H locs cells slots Q ls f1 f2 f3 a b c1 c2 q)
theorem Go_if_ne {off : Int} (hd : decode M.2.2.1 pc = .ok (.ifCond .ne off, 3)) (ht : (pc : Int) + off = (tgt : Int)) (hp : pc + 3 = pc') (kt : ¬ x = 0 → Go G d mc ms M tgt lv st h K) (kf : x = 0 → Go G d mc ms M pc' lv st h K) : Go G d mc ms M pc lv (.int x :: st) h K := by
  subst hp
  exact fun p e s m args below meth c R H locs cells slots Q ls f1 f2 f3 a b c1 c2 q => lv_if_ne f1.1 f1.2.1 hd ht (fun z => kt z p e s m args below meth c R H locs cells slots Q ls f1 f2 f3 a b c1 c2 q) (fun z => kf z p e s m args below meth c R H locs cells slots Q ls f1 f2 f3 a b c1 c2 q)
theorem Go_icmp_ne {off : Int} (hd : decode M.2.2.1 pc = .ok (.if_icmp .ne off, 3)) (ht : (pc : Int) + off = (tgt : Int)) (hp : pc + 3 = pc') (kt : ¬ x = y → Go G d mc ms M tgt lv st h K) (kf : x = y → Go G d mc ms M pc' lv st h K) : Go G d mc ms M pc lv (.int y :: .int x :: st) h K := by
  subst hp
  exact fun p e s m args below meth c R H locs cells slots Q ls f1 f2 f3 a b c1 c2 q => lv_icmp_ne f1.1 f1.2.1 hd ht (fun z => kt z p e s m args below meth c R H locs cells slots Q ls f1 f2 f3 a b c1 c2 q) (fun z => kf z p e s m args below meth c R H locs cells slots Q ls f1 f2 f3 a b c1 c2 q)
theorem Go_if_lt {off : Int} (hd : decode M.2.2.1 pc = .ok (.ifCond .lt off, 3)) (ht : (pc : Int) + off = (tgt : Int)) (hp : pc + 3 = pc') (kt : x < 0 → Go G d mc ms M tgt lv st h K) (kf : ¬ x < 0 → Go G d mc ms M pc' lv st h K) : Go G d mc ms M pc lv (.int x :: st) h K := by
  subst hp
  exact fun p e s m args below meth c R H locs cells slots Q ls f1 f2 f3 a b c1 c2 q => lv_if_lt f1.1 f1.2.1 hd ht (fun z => kt z p e s m args below meth c R H locs cells slots Q ls f1 f2 f3 a b c1 c2 q) (fun z => kf z p e s m args below meth c R H locs cells slots Q ls f1 f2 f3 a b c1 c2 q)
theorem Go_icmp_lt {off : Int} (hd : decode M.2.2.1 pc = .ok (.if_icmp .lt off, 3)) (ht : (pc : Int) + off = (tgt : Int)) (hp : pc + 3 = pc') (kt : x < y → Go G d mc ms M tgt lv st h K) (kf : ¬ x < y → Go G d mc ms M pc' lv st h K) : Go G d mc ms M pc lv (.int y :: .int x :: st) h K := by
  subst hp
  exact fun p e s m args below meth c R H locs cells slots Q ls f1 f2 f3 a b c1 c2 q => lv_icmp_lt f1.1 f1.2.1 hd ht (fun z => kt z p e s m args below meth c R H locs cells slots Q ls f1 f2 f3 a b c1 c2 q) (fun z => kf z p e s m args below meth c R H locs cells slots Q ls f1 f2 f3 a b c1 c2 q)
theorem Go_if_ge {off : Int} (hd : decode M.2.2.1 pc = .ok (.ifCond .ge off, 3)) (ht : (pc : Int) + off = (tgt : Int)) (hp : pc + 3 = pc') (kt : 0 ≤ x → Go G d mc ms M tgt lv st h K) (kf : ¬ 0 ≤ x → Go G d mc ms M pc' lv st h K) : Go G d mc ms M pc lv (.int x :: st) h K := by
  subst hp
  exact fun p e s m args below meth c R H locs cells slots Q ls f1 f2 f3 a b c1 c2 q => lv_if_ge f1.1 f1.2.1 hd ht (fun z => kt z p e s m args below meth c R H locs cells slots Q ls f1 f2 f3 a b c1 c2 q) (fun z => kf z p e s m args below meth c R H locs cells slots Q ls f1 f2 f3 a b c1 c2 q)
theorem Go_icmp_ge {off : Int} (hd : decode M.2.2.1 pc = .ok (.if_icmp .ge off, 3)) (ht : (pc : Int) + off = (tgt : Int)) (hp : pc + 3 = pc') (kt : y ≤ x → Go G d mc ms M tgt lv st h K) (kf : ¬ y ≤ x → Go G d mc ms M pc' lv st h K) : Go G d mc ms M pc lv (.int y :: .int x :: st) h K := by
  subst hp
  exact fun p e s m args below meth c R H locs cells slots Q ls f1 f2 f3 a b c1 c2 q => lv_icmp_ge f1.1 f1.2.1 hd ht (fun z => kt z p e s m args below meth c R H locs cells slots Q ls f1 f2 f3 a b c1 c2 q) (fun z => kf z p e s m args below meth c R H locs cells slots Q ls f1 f2 f3 a b c1 c2 q)
theorem Go_if_gt {off : Int} (hd : decode M.2.2.1 pc = .ok (.ifCond .gt off, 3)) (ht : (pc : Int) + off = (tgt : Int)) (hp : pc + 3 = pc') (kt : 0 < x → Go G d mc ms M tgt lv st h K) (kf : ¬ 0 < x → Go G d mc ms M pc' lv st h K) : Go G d mc ms M pc lv (.int x :: st) h K := by
  subst hp
  exact fun p e s m args below meth c R H locs cells slots Q ls f1 f2 f3 a b c1 c2 q => lv_if_gt f1.1 f1.2.1 hd ht (fun z => kt z p e s m args below meth c R H locs cells slots Q ls f1 f2 f3 a b c1 c2 q) (fun z => kf z p e s m args below meth c R H locs cells slots Q ls f1 f2 f3 a b c1 c2 q)
theorem Go_icmp_gt {off : Int} (hd : decode M.2.2.1 pc = .ok (.if_icmp .gt off, 3)) (ht : (pc : Int) + off = (tgt : Int)) (hp : pc + 3 = pc') (kt : y < x → Go G d mc ms M tgt lv st h K) (kf : ¬ y < x → Go G d mc ms M pc' lv st h K) : Go G d mc ms M pc lv (.int y :: .int x :: st) h K := by
  subst hp
  exact fun p e s m args below meth c R H locs cells slots Q ls f1 f2 f3 a b c1 c2 q => lv_icmp_gt f1.1 f1.2.1 hd ht (fun z => kt z p e s m args below meth c R H locs cells slots Q ls f1 f2 f3 a b c1 c2 q) (fun z => kf z p e s m args below meth c R H locs cells slots Q ls f1 f2 f3 a b c1 c2 q)
theorem Go_if_le {off : Int} (hd : decode M.2.2.1 pc = .ok (.ifCond .le off, 3)) (ht : (pc : Int) + off = (tgt : Int)) (hp : pc + 3 = pc') (kt : x ≤ 0 → Go G d mc ms M tgt lv st h K) (kf : ¬ x ≤ 0 → Go G d mc ms M pc' lv st h K) : Go G d mc ms M pc lv (.int x :: st) h K := by
  subst hp
  exact fun p e s m args below meth c R H locs cells slots Q ls f1 f2 f3 a b c1 c2 q => lv_if_le f1.1 f1.2.1 hd ht (fun z => kt z p e s m args below meth c R H locs cells slots Q ls f1 f2 f3 a b c1 c2 q) (fun z => kf z p e s m args below meth c R H locs cells slots Q ls f1 f2 f3 a b c1 c2 q)
theorem Go_icmp_le {off : Int} (hd : decode M.2.2.1 pc = .ok (.if_icmp .le off, 3)) (ht : (pc : Int) + off = (tgt : Int)) (hp : pc + 3 = pc') (kt : x ≤ y → Go G d mc ms M tgt lv st h K) (kf : ¬ x ≤ y → Go G d mc ms M pc' lv st h K) : Go G d mc ms M pc lv (.int y :: .int x :: st) h K := by
  subst hp
  exact fun p e s m args below meth c R H locs cells slots Q ls f1 f2 f3 a b c1 c2 q => lv_icmp_le f1.1 f1.2.1 hd ht (fun z => kt z p e s m args below meth c R H locs cells slots Q ls f1 f2 f3 a b c1 c2 q) (fun z => kf z p e s m args below meth c R H locs cells slots Q ls f1 f2 f3 a b c1 c2 q)
theorem Go_tableOut {dflt lo hi : Int} {offs : Array Int} {len : Nat} (hd : decode M.2.2.1 pc = .ok (.tableswitch dflt lo hi offs, len)) (hx : x.toInt < lo ∨ hi < x.toInt) (ht : (pc : Int) + dflt = (tgt : Int)) (k : Go G d mc ms M tgt lv st h K) : Go G d mc ms M pc lv (.int x :: st) h K :=
  Go.pure (fun _ _ _ _ _ _ _ _ _ _ _ _ _ _ _ F _ k => lv_tableOut F.1 F.2.1 hd hx ht k) k
theorem Go_tableIn {dflt lo hi off : Int} {offs : Array Int} {len : Nat} (hd : decode M.2.2.1 pc = .ok (.tableswitch dflt lo hi offs, len)) (h1 : ¬ x.toInt < lo) (h2 : ¬ hi < x.toInt) (ho : offs[(x.toInt - lo).toNat]? = some off) (ht : (pc : Int) + off = (tgt : Int)) (k : Go G d mc ms M tgt lv st h K) : Go G d mc ms M pc lv (.int x :: st) h K :=
  Go.pure (fun _ _ _ _ _ _ _ _ _ _ _ _ _ _ _ F _ k => lv_tableIn F.1 F.2.1 hd h1 h2 ho ht k) k
theorem Go_lookup {dflt off : Int} {ps : Array (Int × Int)} {len : Nat} (hd : decode M.2.2.1 pc = .ok (.lookupswitch dflt ps, len)) (hs : (ps.toList.zip (ps.toList.drop 1)).all (fun (a, next) => a.1 < next.1) = true) (ho : Op.lookupswitch.offset ps.toList dflt x.toInt = off) (ht : (pc : Int) + off = (tgt : Int)) (k : Go G d mc ms M tgt lv st h K) : Go G d mc ms M pc lv (.int x :: st) h K :=
  Go.pure (fun _ _ _ _ _ _ _ _ _ _ _ _ _ _ _ F _ k => lv_lookup F.1 F.2.1 hd hs ho ht k) k
/-- returns -/
theorem Go_ireturn {ty : FieldType} (hd : decode M.2.2.1 pc = .ok (.ireturn, 1)) (hr : M.2.2.2.2 = some ty) (hn : narrow ty (.int x) = .int x) (k : K (some (.int x)) h) : Go G d mc ms M pc lv [.int x] h K :=
  fun p e s m args below meth c R H locs cells slots Q ls f1 f2 f3 a b c1 c2 q => q (some (.int x)) h pc H locs cells slots ls (Or.inl ⟨x, ty, rfl, hr, hn, hd⟩) k f2 (Nat.le_add_right _ _) (Nat.le_add_right _ _)
theorem Go_lreturn (hd : decode M.2.2.1 pc = .ok (.lreturn, 1)) (hr : M.2.2.2.2 = some .long) (k : K (some (.long X)) h) : Go G d mc ms M pc lv [.long X] h K :=
  fun p e s m args below meth c R H locs cells slots Q ls f1 f2 f3 a b c1 c2 q => q (some (.long X)) h pc H locs cells slots ls (Or.inr (Or.inl ⟨X, rfl, hr, hd⟩)) k f2 (Nat.le_add_right _ _) (Nat.le_add_right _ _)
theorem Go_areturn {C : String} {r : Option Nat} (hd : decode M.2.2.1 pc = .ok (.areturn, 1)) (hr : M.2.2.2.2 = some (.object C)) (k : K (some (va_rf r)) h) : Go G d mc ms M pc lv [va_rf r] h K :=
  fun p e s m args below meth c R H locs cells slots Q ls f1 f2 f3 a b c1 c2 q => q (some (va_rf r)) h pc H locs cells slots ls (Or.inr (Or.inr (Or.inl ⟨r, C, rfl, hr, hd⟩))) k f2 (Nat.le_add_right _ _) (Nat.le_add_right _ _)
theorem Go_return (hd : decode M.2.2.1 pc = .ok (.return_, 1)) (hr : M.2.2.2.2 = none) (k : K none h) : Go G d mc ms M pc lv [] h K :=
  fun p e s m args below meth c R H locs cells slots Q ls f1 f2 f3 a b c1 c2 q => q none h pc H locs cells slots ls (Or.inr (Or.inr (Or.inr ⟨rfl, hr, hd⟩))) k f2 (Nat.le_add_right _ _) (Nat.le_add_right _ _)
end GoA
