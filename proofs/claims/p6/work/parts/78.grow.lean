/-! what is new is counted by the world itself: the counters of a walk set back to it; junk counts for six (p21's part, changed) -/
def gJk (J : Nat → Prop) (hp : List gA) : Prop := ∀ k : Nat, hp[k]? = some gJunk ↔ J k
theorem gsum_le {β : Type} {f : β → Nat} : ∀ {l : List β} {m : List Nat}, l.length = m.length → (∀ (i : Nat) (x : β) (y : Nat), l[i]? = some x → m[i]? = some y → f x = y) → (l.map f).sum = m.sum
  | [], [], _, _ => rfl
  | [], _ :: _, h, _ => by cases h
  | _ :: _, [], h, _ => by cases h
  | a :: l, b :: m, h, hf => by
    rw [List.map_cons, List.sum_cons, List.sum_cons, hf 0 a b rfl rfl, gsum_le (l := l) (m := m) (Nat.succ.inj h) (fun i x y h1 h2 => hf (i + 1) x y h1 h2)]
theorem gsum_le2 {β : Type} {f : β → Nat} : ∀ {l : List β} {m : List Nat}, l.length = m.length → (∀ (i : Nat) (x : β) (y : Nat), l[i]? = some x → m[i]? = some y → f x ≤ y) → (l.map f).sum ≤ m.sum
  | [], [], _, _ => Nat.le_refl _
  | [], _ :: _, h, _ => by cases h
  | _ :: _, [], h, _ => by cases h
  | a :: l, b :: m, h, hf => by
    rw [List.map_cons, List.sum_cons, List.sum_cons]
    exact Nat.add_le_add (hf 0 a b rfl rfl) (gsum_le2 (l := l) (m := m) (Nat.succ.inj h) (fun i x y h1 h2 => hf (i + 1) x y h1 h2))
section GGR
variable {X : gX} {own nm : String} {cc : ByteArray} {nL : Nat} {rm : Room} {pc q : Nat} {ls : List (Option Value)} {st : List Value} {hp hp0 : List gA} {cl sl : Nat}
theorem g_tight (h0 : gH (xD X) (xI X) (xJ X) (xB X) (xA X) hp0 (xs X).heap) {J : Nat → Prop} (nj0 : gJk J hp0) (nj : gJk J hp)
    (k : hp0.length ≤ hp.length → gsz hp0 ≤ gsz hp → gG X pc ls st hp (hp.length - hp0.length) (gsz hp - gsz hp0)) : gG X pc ls st hp cl sl := by
  intro arr H locs hl hh hS T hT Y
  have hsame := Y.same
  obtain ⟨a1, a2, a3, a4, a5, a6⟩ := hsame
  have hT2 : (T.setVm (xs X).vm).heap = H := hT
  rw [hT2] at a2 a3 a4 a5 a6
  have hz0 : (xs X).heap.size = xB X + hp0.length := h0.1
  have hz1 : H.size = xB X + hp.length := hh.1
  have hle : hp0.length ≤ hp.length := by omega
  -- the old cells have the sizes that they had
  have e1 : gsz (hp.take hp0.length) = gsz hp0 := by
    unfold gsz
    refine gsum_le (by rw [List.length_take, List.length_map]; omega) fun i x y hx hy => ?_
    rw [List.getElem?_map] at hy
    cases h2 : hp0[i]? with
    | none => rw [h2] at hy; cases hy
    | some z =>
      rw [h2] at hy
      cases hy
      have hi : i < hp0.length := (List.getElem?_eq_some_iff.mp h2).1
      rw [List.getElem?_take_of_lt hi] at hx
      obtain ⟨c, hc⟩ : ∃ c, (xs X).heap[xB X + i]? = some c := ⟨_, Array.getElem?_eq_getElem (by omega)⟩
      obtain ⟨c', hc', -, hsz, -⟩ := a6 _ _ hc
      by_cases hJ : z = gJunk
      · have : x = gJunk := by
          rw [hJ] at h2
          have := (nj i).mpr ((nj0 i).mp h2)
          rw [hx] at this
          exact Option.some.inj this
        rw [this, hJ]
      · have hx2 : x ≠ gJunk := fun e => by
          rw [e] at hx
          have := (nj0 i).mpr ((nj i).mp hx)
          rw [h2] at this
          exact hJ (Option.some.inj this)
        have s0 := (h0.2.1 i z h2 hJ).2 c hc
        have s1 := (hh.2.1 i x hx hx2).2 c' hc'
        omega
  have e2 : gsz hp = gsz hp0 + gsz (hp.drop hp0.length) := by
    rw [← e1]
    unfold gsz
    rw [← List.sum_append, ← List.map_append, List.take_append_drop]
  have e3 : ((H.toList.drop (xs X).heap.size).map (·.slots.size)).sum ≤ gsz (hp.drop hp0.length) := by
    unfold gsz
    refine gsum_le2 (by rw [List.length_drop, Array.length_toList, List.length_map, List.length_drop]; omega) fun i x y hx hy => ?_
    rw [List.getElem?_drop, Array.getElem?_toList] at hx
    rw [List.getElem?_map, List.getElem?_drop] at hy
    cases h2 : hp[hp0.length + i]? with
    | none => rw [h2] at hy; cases hy
    | some z =>
      rw [h2] at hy
      cases hy
      have hx' : H[xB X + (hp0.length + i)]? = some x := by rw [← hx]; congr 1; omega
      by_cases hJ : z = gJunk
      · rw [hJ] at h2 ⊢
        exact hh.2.2 _ h2 x hx'
      · exact Nat.le_of_eq ((hh.2.1 _ z h2 hJ).2 x hx')
  refine k hle (by omega) arr H locs hl hh hS T hT { Y with same := ⟨a1, by rw [hT2]; exact a2, by rw [hT2]; omega, by rw [hT2]; exact a4, by rw [hT2]; omega, by rw [hT2]; exact a6⟩ }
end GGR
theorem gM_ofT {y : MethodName} {bytes : ByteArray} {maxL : Nat} {ret : Option FieldType} {fr lo : Nat} {av : List Value} {hp : List gA} {mc ms : Nat} {P : Option Value → List gA → Prop} {ls0 : List (Option Value)} (hy : plainFor y = true) (hn : (gent av).length ≤ maxL) (hl : gent av ++ List.replicate (maxL - (gent av).length) none = ls0)
    (body : ∀ X : gX, gC X y.cls y.name bytes maxL ({ frames := fr, cells := mc, slots := ms, locals := lo }) → gEnd X bytes ret P mc ms → gH (xD X) (xI X) (xJ X) (xB X) (xA X) hp (xs X).heap → gG X 0 ls0 [] hp 0 0) : gM y bytes maxL ret fr lo av hp mc ms P := by
  intro l D cI cJ b0 sa
  refine gofW (cc := bytes) (maxL := maxL) (ret := ret) hy rfl ?_
  intro p e s m args below meth c s₁ B hml hv
  obtain ⟨rfl, hH, hK, hN⟩ := hv
  have hts := atoms_spec (ws := Cond.code y bytes maxL ret :: gW) B.pre
  have C : gC ((p, l, e, (headSpec (Cond.code y bytes maxL ret :: gW) { frames := fr, cells := mc, slots := ms, locals := lo }).room), (s, m, (av.map (gv b0 sa)).toArray, below), (meth, c), (D, cI, cJ), (b0, sa), MQ below (gQc D cI cJ b0 sa P) (av.map (gv b0 sa)).toArray s mc ms (fun q => b0 ≤ q)) y.cls y.name bytes maxL ({ frames := fr, cells := mc, slots := ms, locals := lo }) :=
    ⟨B.exec, B.bytes, hml, findClass_of_methodNamed B.named, fun w hw => hts w (List.mem_cons_of_mem _ hw), hK, by show b0 ≤ s.heap.size; rw [hH.1]; omega, B.notSynchronized, rfl, (name_of_methodNamed B.named B.method).1, hN⟩
  have hr := B.returns
  have hlk := B.notSynchronized
  have G := body _ C ⟨?_, ?_, ?_⟩ hH
  · have hE := gL_entry b0 sa av hn
    rw [hl] at hE
    rw [lg_entry_eq]
    exact G _ s.heap [] hE hH va_S.rf
  · intro pc ls v hp1 cl sl ty hd hty hnr h1 h2 hP arr H locs hl1 hh hS
    exact W.widen h1 h2 (W.zret B.exec B.bytes (hr.trans hty) hnr (fun t ht hW => ⟨⟨some (.int v), hp1, rfl, hP, by rw [ht]; exact hh⟩, hS.F ht⟩) hS.2.2 hd hlk)
  · intro pc ls hp1 cl sl hd hty h1 h2 hP arr H locs hl1 hh hS
    exact W.widen h1 h2 (W.vret B.exec B.bytes (hr.trans hty) (fun t ht hW => ⟨⟨none, hp1, rfl, hP, by rw [ht]; exact hh⟩, hS.F ht⟩) hS.2.2 hd hlk)
  · intro pc ls k hp1 cl sl ty hd hty hrt h1 h2 hP arr H locs hl1 hh hS
    exact W.widen h1 h2 (W.aret B.exec B.bytes (hr.trans hty) hrt (Or.inr ⟨_, rfl⟩) (fun t ht hW => ⟨⟨some (.ref k), hp1, rfl, hP, by rw [ht]; exact hh⟩, hS.F ht⟩) hS.2.2 hd hlk)
