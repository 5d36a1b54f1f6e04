/-! Line: one record for the line with both sides and the two rows (by program: wip/p1/m_line.py) -/
def gLn : Type := (Nat → Int32) × ((Nat → gSd) × (Nat → List Int32))
def gLn.st (L : gLn) : Int32 := L.1 0
def gLn.tr (L : gLn) : Int32 := L.1 1
def gLn.we (L : gLn) : Int32 := L.1 2
def gLn.td (L : gLn) : Int32 := L.1 3
def gLn.tg (L : gLn) : Int32 := L.1 4
def gLn.oc (L : gLn) : Int32 := L.1 5
def gLn.ft (L : gLn) : Int32 := L.1 6
def gLn.rw (L : gLn) : Int32 := L.1 7
def gLn.sk (L : gLn) : Int32 := L.1 8
def gLn.ta (L : gLn) : Int32 := L.1 9
def gLn.wl (L : gLn) : Int32 := L.1 10
def gLn.si (L : gLn) : Int32 := L.1 11
def gLn.rd (L : gLn) : gSd := L.2.1 0
def gLn.cd (L : gLn) : gSd := L.2.1 1
def gLn.bl (L : gLn) : List Int32 := L.2.2 0
def gLn.ca (L : gLn) : List Int32 := L.2.2 1
def gLn.set (L : gLn) (k : Nat) (x : Int32) : gLn := (fun j => if j = k then x else L.1 j, L.2)
def gLn.side (L : gLn) (k : Nat) (s : gSd) : gLn := (L.1, (fun j => if j = k then s else L.2.1 j, L.2.2))
def gLn.row (L : gLn) (k : Nat) (l : List Int32) : gLn := (L.1, (L.2.1, fun j => if j = k then l else L.2.2 j))
def gLnC (L : gLn) : gA := .inr (.inr (2, [.ref 21, .ref 28, .ref 35, .int L.st, .int L.tr, .int L.we, .int L.td, .int L.tg, .ref 39, .ref 41, .ref 3, .int L.oc, .int L.ft, .int L.rw, .int L.sk, .int L.ta, .int L.wl, .int L.si]))
def gLine (hp : List gA) (L : gLn) : Prop := hp[20]? = some (gLnC L) ∧ gSide hp 21 0 L.rd ∧ gSide hp 28 1 L.cd ∧ gRw hp 39 40 64 L.bl ∧ gRw hp 41 42 64 L.ca
def gFL (hp h : List gA) : Prop := ∀ k, (k < 20 ∨ (35 ≤ k ∧ k < 39) ∨ 43 ≤ k) → h[k]? = hp[k]?
theorem gFL.rf {hp : List gA} : gFL hp hp := fun _ _ => rfl
theorem gFL.trans {hp h h' : List gA} (a : gFL hp h) (b : gFL h h') : gFL hp h' := fun k hk => (b k hk).trans (a k hk)
theorem gLine.kept {hp h : List gA} {L : gLn} (H : gLine hp L) (fr : ∀ k, (20 ≤ k ∧ k < 35 ∨ 39 ≤ k ∧ k < 43) → h[k]? = hp[k]?) : gLine h L :=
  ⟨(fr 20 (by omega)).trans H.1, H.2.1.kept (fun k a b => fr k (by omega)), H.2.2.1.kept (fun k a b => fr k (by omega)), H.2.2.2.1.kept (fr 39 (by omega)) (fr 40 (by omega)), H.2.2.2.2.kept (fr 41 (by omega)) (fr 42 (by omega))⟩
theorem gLine.rd_ {hp h : List gA} {L : gLn} {s : gSd} (H : gLine hp L) (z : gSide h 21 0 s ∧ gFS hp h 21) : gLine h (L.side 0 s) ∧ gFL hp h :=
  ⟨⟨(z.2 20 (by omega)).trans H.1, z.1, H.2.2.1.kept (fun k a b => z.2 k (by omega)), H.2.2.2.1.kept (z.2 39 (by omega)) (z.2 40 (by omega)), H.2.2.2.2.kept (z.2 41 (by omega)) (z.2 42 (by omega))⟩, fun k hk => z.2 k (by omega)⟩
theorem gLine.cd_ {hp h : List gA} {L : gLn} {s : gSd} (H : gLine hp L) (z : gSide h 28 1 s ∧ gFS hp h 28) : gLine h (L.side 1 s) ∧ gFL hp h :=
  ⟨⟨(z.2 20 (by omega)).trans H.1, H.2.1.kept (fun k a b => z.2 k (by omega)), z.1, H.2.2.2.1.kept (z.2 39 (by omega)) (z.2 40 (by omega)), H.2.2.2.2.kept (z.2 41 (by omega)) (z.2 42 (by omega))⟩, fun k hk => z.2 k (by omega)⟩
theorem gLine.bl {hp h : List gA} {L : gLn} {l : List Int32} (H : gLine hp L) (z : gRw h 39 40 64 l ∧ gFr hp h 39 40) : gLine h (L.row 0 l) ∧ gFL hp h :=
  ⟨⟨(z.2 20 (by omega) (by omega)).trans H.1, H.2.1.kept (fun k a b => z.2 k (by omega) (by omega)), H.2.2.1.kept (fun k a b => z.2 k (by omega) (by omega)), z.1, H.2.2.2.2.kept (z.2 41 (by omega) (by omega)) (z.2 42 (by omega) (by omega))⟩, fun k hk => z.2 k (by omega) (by omega)⟩
theorem gLine.ca {hp h : List gA} {L : gLn} {l : List Int32} (H : gLine hp L) (z : gRw h 41 42 64 l ∧ gFr hp h 41 42) : gLine h (L.row 1 l) ∧ gFL hp h :=
  ⟨⟨(z.2 20 (by omega) (by omega)).trans H.1, H.2.1.kept (fun k a b => z.2 k (by omega) (by omega)), H.2.2.1.kept (fun k a b => z.2 k (by omega) (by omega)), H.2.2.2.1.kept (z.2 39 (by omega) (by omega)) (z.2 40 (by omega) (by omega)), z.1⟩, fun k hk => z.2 k (by omega) (by omega)⟩
theorem gLine.rd_out {hp h : List gA} {L : gLn} {l : List Int32} (H : gLine hp L) (z : gRw h 22 23 60 l ∧ gFr hp h 22 23) : gLine h (L.side 0 (L.rd.row 0 l)) ∧ gFL hp h :=
  H.rd_ ⟨⟨(z.2 21 (by omega) (by omega)).trans H.2.1.1, z.1, (H.2.1.2.2.1.kept (z.2 _ (by omega) (by omega)) (z.2 _ (by omega) (by omega))), (H.2.1.2.2.2.kept (z.2 _ (by omega) (by omega)) (z.2 _ (by omega) (by omega)))⟩, fun k hk => z.2 k (by omega) (by omega)⟩
theorem gLine.rd_got {hp h : List gA} {L : gLn} {l : List Int32} (H : gLine hp L) (z : gRw h 24 25 60 l ∧ gFr hp h 24 25) : gLine h (L.side 0 (L.rd.row 1 l)) ∧ gFL hp h :=
  H.rd_ ⟨⟨(z.2 21 (by omega) (by omega)).trans H.2.1.1, (H.2.1.2.1.kept (z.2 _ (by omega) (by omega)) (z.2 _ (by omega) (by omega))), z.1, (H.2.1.2.2.2.kept (z.2 _ (by omega) (by omega)) (z.2 _ (by omega) (by omega)))⟩, fun k hk => z.2 k (by omega) (by omega)⟩
theorem gLine.rd_inn {hp h : List gA} {L : gLn} {l : List Int32} (H : gLine hp L) (z : gRw h 26 27 60 l ∧ gFr hp h 26 27) : gLine h (L.side 0 (L.rd.row 2 l)) ∧ gFL hp h :=
  H.rd_ ⟨⟨(z.2 21 (by omega) (by omega)).trans H.2.1.1, (H.2.1.2.1.kept (z.2 _ (by omega) (by omega)) (z.2 _ (by omega) (by omega))), (H.2.1.2.2.1.kept (z.2 _ (by omega) (by omega)) (z.2 _ (by omega) (by omega))), z.1⟩, fun k hk => z.2 k (by omega) (by omega)⟩
theorem gLine.cd_out {hp h : List gA} {L : gLn} {l : List Int32} (H : gLine hp L) (z : gRw h 29 30 60 l ∧ gFr hp h 29 30) : gLine h (L.side 1 (L.cd.row 0 l)) ∧ gFL hp h :=
  H.cd_ ⟨⟨(z.2 28 (by omega) (by omega)).trans H.2.2.1.1, z.1, (H.2.2.1.2.2.1.kept (z.2 _ (by omega) (by omega)) (z.2 _ (by omega) (by omega))), (H.2.2.1.2.2.2.kept (z.2 _ (by omega) (by omega)) (z.2 _ (by omega) (by omega)))⟩, fun k hk => z.2 k (by omega) (by omega)⟩
theorem gLine.cd_got {hp h : List gA} {L : gLn} {l : List Int32} (H : gLine hp L) (z : gRw h 31 32 60 l ∧ gFr hp h 31 32) : gLine h (L.side 1 (L.cd.row 1 l)) ∧ gFL hp h :=
  H.cd_ ⟨⟨(z.2 28 (by omega) (by omega)).trans H.2.2.1.1, (H.2.2.1.2.1.kept (z.2 _ (by omega) (by omega)) (z.2 _ (by omega) (by omega))), z.1, (H.2.2.1.2.2.2.kept (z.2 _ (by omega) (by omega)) (z.2 _ (by omega) (by omega)))⟩, fun k hk => z.2 k (by omega) (by omega)⟩
theorem gLine.cd_inn {hp h : List gA} {L : gLn} {l : List Int32} (H : gLine hp L) (z : gRw h 33 34 60 l ∧ gFr hp h 33 34) : gLine h (L.side 1 (L.cd.row 2 l)) ∧ gFL hp h :=
  H.cd_ ⟨⟨(z.2 28 (by omega) (by omega)).trans H.2.2.1.1, (H.2.2.1.2.1.kept (z.2 _ (by omega) (by omega)) (z.2 _ (by omega) (by omega))), (H.2.2.1.2.2.1.kept (z.2 _ (by omega) (by omega)) (z.2 _ (by omega) (by omega))), z.1⟩, fun k hk => z.2 k (by omega) (by omega)⟩
section GLX
variable {X : gX} {own nm : String} {cc : ByteArray} {nL : Nat} {rm : Room} {pc q : Nat} {ls : List (Option Value)} {st stk : List Value} {hp : List gA} {cl sl : Nat} {L : gLn} {e : gA} {k : Nat} {x : Int32}
theorem gLput (H : gLine hp L) (he : e = gLnC (L.set k x)) (kk : ∀ h, gLine h (L.set k x) → gFL hp h → gG X q ls st h cl sl) : gG X q ls st (hp.set 20 e) cl sl := by
  subst he
  have f : ∀ j, j ≠ 20 → (hp.set 20 (gLnC (L.set k x)))[j]? = hp[j]? := fun j hj => List.getElem?_set_ne (Ne.symm hj)
  exact kk _ ⟨gset_self H.1, H.2.1.kept (fun k a b => f k (by omega)), H.2.2.1.kept (fun k a b => f k (by omega)), H.2.2.2.1.kept (f 39 (by omega)) (f 40 (by omega)), H.2.2.2.2.kept (f 41 (by omega)) (f 42 (by omega))⟩ (fun j hj => f j (by omega))
theorem gLput_rd (H : gLine hp L) (he : e = gSdC 21 0 (L.rd.set k x)) (kk : ∀ h, gLine h (L.side 0 (L.rd.set k x)) → gFL hp h → gG X q ls st h cl sl) : gG X q ls st (hp.set 21 e) cl sl := by
  subst he
  have z := H.rd_ (H.2.1.put (s' := L.rd.set k x) (gset_self H.2.1.1) (fun j hj => List.getElem?_set_ne (Ne.symm hj)) rfl rfl rfl)
  exact kk _ z.1 z.2
theorem gLput_cd (H : gLine hp L) (he : e = gSdC 28 1 (L.cd.set k x)) (kk : ∀ h, gLine h (L.side 1 (L.cd.set k x)) → gFL hp h → gG X q ls st h cl sl) : gG X q ls st (hp.set 28 e) cl sl := by
  subst he
  have z := H.cd_ (H.2.2.1.put (s' := L.cd.set k x) (gset_self H.2.2.1.1) (fun j hj => List.getElem?_set_ne (Ne.symm hj)) rfl rfl rfl)
  exact kk _ z.1 z.2
theorem g_tableE (C : gC X own nm cc nL rm) {dflt lo hi : Int} {offs : Array Int} {len : Nat} {v : Int32} {off : Int} {t : Nat} (hd : decode cc pc = .ok (.tableswitch dflt lo hi offs, len)) (hx : x = v) (h1 : ¬ v.toInt < lo) (h2 : ¬ hi < v.toInt) (ho : offs[(v.toInt - lo).toNat]? = some off) (ht : (pc : Int) + off = (t : Int)) (k : gG X t ls st hp cl sl) : gG X pc ls (.int x :: st) hp cl sl := by
  subst hx; exact g_tableIn C hd h1 h2 ho ht k
variable {y : MethodName} {bytes : ByteArray} {maxL n ix b fr lo mc ms : Nat} {ret : Option FieldType} {As : List Value}
theorem g_callVix {P : List gA → Prop} (C : gC X own nm cc nL rm) (Y : gY y bytes maxL ret n) (V : gVv y) (hl0 : Cond.methodLink own ix y ∈ gW) (hM : gM y bytes maxL ret fr lo (.ref b :: As) hp mc ms (fun v h => v = some (.int x) ∧ P h)) (hd : decode cc pc = .ok (.invokevirtual ix, 3)) (hq : pc + 3 = q) {ci N : Nat} {T : u_T} {fs : List Value} (ho : hp[b]? = some (.inr (.inr (ci, fs)))) (hci : vwCl[ci]? = some (y.cls, T, N)) (hn : As.length = n) (hls : ls.length = nL) (hfr : fr + 1 ≤ rm.frames) (hlo : 8 + (maxL + 11) + lo ≤ rm.locals) (hw : (st.map fun v => v.category).sum ≤ 8) (hc : cl + mc ≤ rm.cells) (hs2 : sl + ms ≤ rm.slots) (hst : stk = As.reverse ++ .ref b :: st) (kk : ∀ hp2 : List gA, P hp2 → gG X q ls (.int x :: st) hp2 (cl + mc) (sl + ms)) : gG X pc ls stk hp cl sl :=
  g_callV C Y V hl0 hM hd hq ho hci hn hls hfr hlo hw hc hs2 hst fun v h z => by obtain ⟨rfl, z⟩ := z; exact kk h z
theorem g_callSix {P : List gA → Prop} (C : gC X own nm cc nL rm) (Y : gY y bytes maxL ret n) (V : Cond.static y ∈ gW) (hl0 : Cond.methodLink own ix y ∈ gW) (hM : gM y bytes maxL ret fr lo (As) hp mc ms (fun v h => v = some (.int x) ∧ P h)) (hd : decode cc pc = .ok (.invokestatic ix, 3)) (hq : pc + 3 = q) (hn : As.length = n) (hls : ls.length = nL) (hfr : fr + 1 ≤ rm.frames) (hlo : 8 + (maxL + 11) + lo ≤ rm.locals) (hw : (st.map fun v => v.category).sum ≤ 8) (hc : cl + mc ≤ rm.cells) (hs2 : sl + ms ≤ rm.slots) (hst : stk = As.reverse ++ st) (kk : ∀ hp2 : List gA, P hp2 → gG X q ls (.int x :: st) hp2 (cl + mc) (sl + ms)) : gG X pc ls stk hp cl sl :=
  g_callS C Y V hl0 hM hd hq hn hls hfr hlo hw hc hs2 hst fun v h z => by obtain ⟨rfl, z⟩ := z; exact kk h z
end GLX
theorem gOut6 {x : Int32} (c0 : ¬ x = 0) (c1 : ¬ x = 1) (c2 : ¬ x = 2) (c3 : ¬ x = 3) (c4 : ¬ x = 4) (c5 : ¬ x = 5) : x.toInt < 0 ∨ 5 < x.toInt := by have d0 : x.toInt ≠ 0 := fun h => c0 (Int32.toInt_inj.mp (h.trans (by decide))); have d1 : x.toInt ≠ 1 := fun h => c1 (Int32.toInt_inj.mp (h.trans (by decide))); have d2 : x.toInt ≠ 2 := fun h => c2 (Int32.toInt_inj.mp (h.trans (by decide))); have d3 : x.toInt ≠ 3 := fun h => c3 (Int32.toInt_inj.mp (h.trans (by decide))); have d4 : x.toInt ≠ 4 := fun h => c4 (Int32.toInt_inj.mp (h.trans (by decide))); have d5 : x.toInt ≠ 5 := fun h => c5 (Int32.toInt_inj.mp (h.trans (by decide))); omega
theorem c_X4_keep0 {hp : List gA} {r a n : Nat} {l : List Int32} (H : gRw hp r a n l) : gM yX4_keep cX4_keep 2 (none) 1 21 [.ref r, .int 0] (hp) (0) (0) (fun v h => v = none ∧ (gRw h r a n [] ∧ gFr hp h r a)) := by
  have h := c_X4_keep_w (k := 0) H (by decide)
  rw [List.take_zero] at h
  exact h
def rX2_begin (L : gLn) (x : Int32) : gLn := (((L.set 0 1).set 6 1).set 7 x)
theorem dX2_begin_0 : decode cX2_begin 0 = .ok (.aload_n 0, 1) := by decide +kernel
theorem dX2_begin_1 : decode cX2_begin 1 = .ok (.iconst 1, 1) := by decide +kernel
theorem dX2_begin_2 : decode cX2_begin 2 = .ok (.putfield 30, 3) := by decide +kernel
theorem dX2_begin_5 : decode cX2_begin 5 = .ok (.aload_n 0, 1) := by decide +kernel
theorem dX2_begin_6 : decode cX2_begin 6 = .ok (.iconst 1, 1) := by decide +kernel
theorem dX2_begin_7 : decode cX2_begin 7 = .ok (.putfield 61, 3) := by decide +kernel
theorem dX2_begin_10 : decode cX2_begin 10 = .ok (.aload_n 0, 1) := by decide +kernel
theorem dX2_begin_11 : decode cX2_begin 11 = .ok (.iload_n 1, 1) := by decide +kernel
theorem dX2_begin_12 : decode cX2_begin 12 = .ok (.putfield 65, 3) := by decide +kernel
theorem dX2_begin_15 : decode cX2_begin 15 = .ok (.return_, 1) := by decide +kernel
set_option maxRecDepth 100000 in
set_option maxHeartbeats 4000000 in
theorem c_X2_begin_l {hp : List gA} {L : gLn} {x : Int32}  (HL : gLine hp L)  : gM yX2_begin cX2_begin 2 (none) 0 0 [.ref 20, .int x] (hp) (0) (0) (fun v h => v = none ∧ (gLine h (rX2_begin L x) ∧ gFL hp h)) := by
  refine gM_of (ls0 := [some (.ref 20), some (.int x)]) (by decide +kernel) (Nat.le_of_ble_eq_true rfl) rfl fun X C E => ?_
  refine g_aload_n (q := 1) C dX2_begin_0 rfl rfl ?_
  refine g_iconst (v := 1) (q := 2) C dX2_begin_1 (by decide) rfl ?_
  refine g_putfield (q := 5) C fX2_30 dX2_begin_2 rfl HL.1 (Nat.le_of_ble_eq_true rfl) (Or.inl rfl) rfl rfl (by intro z h; cases h) ?_
  refine gLput (k := 0) (x := 1) HL rfl fun h1 HL1 fr1 => ?_
  refine g_aload_n (q := 6) C dX2_begin_5 rfl rfl ?_
  refine g_iconst (v := 1) (q := 7) C dX2_begin_6 (by decide) rfl ?_
  refine g_putfield (q := 10) C fX2_61 dX2_begin_7 rfl HL1.1 (Nat.le_of_ble_eq_true rfl) (Or.inl rfl) rfl rfl (by intro z h; cases h) ?_
  refine gLput (k := 6) (x := 1) HL1 rfl fun h2 HL2 fr2 => ?_
  refine g_aload_n (q := 11) C dX2_begin_10 rfl rfl ?_
  refine g_iload_n (q := 12) C dX2_begin_11 rfl rfl ?_
  refine g_putfield (q := 15) C fX2_65 dX2_begin_12 rfl HL2.1 (Nat.le_of_ble_eq_true rfl) (Or.inl rfl) rfl rfl (by intro z h; cases h) ?_
  refine gLput (k := 7) (x := x) HL2 rfl fun h3 HL3 fr3 => ?_
  have e : rX2_begin L x = (((L.set 0 1).set 6 1).set 7 x) := rfl
  exact E.2.1 _ _ _ _ _ dX2_begin_15 rfl (Nat.le_of_ble_eq_true rfl) (Nat.le_of_ble_eq_true rfl) ⟨rfl, by rw [e]; exact ⟨HL3, (gFL.trans (gFL.trans fr1 fr2) fr3)⟩⟩
def rX2_startRoom (L : gLn) (x : Int32) : gLn := (rX2_begin L x)
theorem dX2_startRoom_0 : decode cX2_startRoom 0 = .ok (.aload_n 0, 1) := by decide +kernel
theorem dX2_startRoom_1 : decode cX2_startRoom 1 = .ok (.iload_n 1, 1) := by decide +kernel
theorem dX2_startRoom_2 : decode cX2_startRoom 2 = .ok (.invokevirtual 108, 3) := by decide +kernel
theorem dX2_startRoom_5 : decode cX2_startRoom 5 = .ok (.return_, 1) := by decide +kernel
set_option maxRecDepth 100000 in
set_option maxHeartbeats 4000000 in
theorem c_X2_startRoom_l {hp : List gA} {L : gLn} {x : Int32}  (HL : gLine hp L)  : gM yX2_startRoom cX2_startRoom 2 (none) 1 21 [.ref 20, .int x] (hp) (0) (0) (fun v h => v = none ∧ (gLine h (rX2_startRoom L x) ∧ gFL hp h)) := by
  refine gM_of (ls0 := [some (.ref 20), some (.int x)]) (by decide +kernel) (Nat.le_of_ble_eq_true rfl) rfl fun X C E => ?_
  refine g_aload_n (q := 1) C dX2_startRoom_0 rfl rfl ?_
  refine g_iload_n (q := 2) C dX2_startRoom_1 rfl rfl ?_
  refine g_callVvp (q := 5) (As := [.int x]) C gyX2_begin gvX2_begin t_553 (c_X2_begin_l HL) dX2_startRoom_2 rfl HL.1 rfl rfl rfl (Nat.le_of_ble_eq_true rfl) (Nat.le_of_ble_eq_true rfl) (Nat.le_of_ble_eq_true rfl) (Nat.le_of_ble_eq_true rfl) (Nat.le_of_ble_eq_true rfl) rfl (fun h1 z1 => ?_)
  obtain ⟨HL1, fr1⟩ := z1
  have e : rX2_startRoom L x = (rX2_begin L x) := rfl
  exact E.2.1 _ _ _ _ _ dX2_startRoom_5 rfl (Nat.le_of_ble_eq_true rfl) (Nat.le_of_ble_eq_true rfl) ⟨rfl, by rw [e]; exact ⟨HL1, fr1⟩⟩
def rX2_finish (L : gLn) (x : Int32) : Int32 × gLn := (if x = 2 then ((-1), ((L.set 0 x).set 3 ((L.set 0 x).td + 1))) else ((-1), ((L.set 0 x).set 4 ((L.set 0 x).tg + 1))))
theorem dX2_finish_0 : decode cX2_finish 0 = .ok (.aload_n 0, 1) := by decide +kernel
theorem dX2_finish_1 : decode cX2_finish 1 = .ok (.iload_n 1, 1) := by decide +kernel
theorem dX2_finish_2 : decode cX2_finish 2 = .ok (.putfield 30, 3) := by decide +kernel
theorem dX2_finish_5 : decode cX2_finish 5 = .ok (.iload_n 1, 1) := by decide +kernel
theorem dX2_finish_6 : decode cX2_finish 6 = .ok (.iconst 2, 1) := by decide +kernel
theorem dX2_finish_7 : decode cX2_finish 7 = .ok (.if_icmp .ne 16, 3) := by decide +kernel
theorem dX2_finish_10 : decode cX2_finish 10 = .ok (.aload_n 0, 1) := by decide +kernel
theorem dX2_finish_11 : decode cX2_finish 11 = .ok (.dup, 1) := by decide +kernel
theorem dX2_finish_12 : decode cX2_finish 12 = .ok (.getfield 40, 3) := by decide +kernel
theorem dX2_finish_15 : decode cX2_finish 15 = .ok (.iconst 1, 1) := by decide +kernel
theorem dX2_finish_16 : decode cX2_finish 16 = .ok (.iadd, 1) := by decide +kernel
theorem dX2_finish_17 : decode cX2_finish 17 = .ok (.putfield 40, 3) := by decide +kernel
theorem dX2_finish_20 : decode cX2_finish 20 = .ok (.goto 13, 3) := by decide +kernel
theorem dX2_finish_23 : decode cX2_finish 23 = .ok (.aload_n 0, 1) := by decide +kernel
theorem dX2_finish_24 : decode cX2_finish 24 = .ok (.dup, 1) := by decide +kernel
theorem dX2_finish_25 : decode cX2_finish 25 = .ok (.getfield 43, 3) := by decide +kernel
theorem dX2_finish_28 : decode cX2_finish 28 = .ok (.iconst 1, 1) := by decide +kernel
theorem dX2_finish_29 : decode cX2_finish 29 = .ok (.iadd, 1) := by decide +kernel
theorem dX2_finish_30 : decode cX2_finish 30 = .ok (.putfield 43, 3) := by decide +kernel
theorem dX2_finish_33 : decode cX2_finish 33 = .ok (.iconst (-1), 1) := by decide +kernel
theorem dX2_finish_34 : decode cX2_finish 34 = .ok (.ireturn, 1) := by decide +kernel
set_option maxRecDepth 100000 in
set_option maxHeartbeats 4000000 in
theorem c_X2_finish_l {hp : List gA} {L : gLn} {x : Int32}  (HL : gLine hp L)  : gM yX2_finish cX2_finish 2 ((some .int)) 0 0 [.ref 20, .int x] (hp) (0) (0) (fun v h => v = some (.int (rX2_finish L x).1) ∧ (gLine h (rX2_finish L x).2 ∧ gFL hp h)) := by
  refine gM_of (ls0 := [some (.ref 20), some (.int x)]) (by decide +kernel) (Nat.le_of_ble_eq_true rfl) rfl fun X C E => ?_
  refine g_aload_n (q := 1) C dX2_finish_0 rfl rfl ?_
  refine g_iload_n (q := 2) C dX2_finish_1 rfl rfl ?_
  refine g_putfield (q := 5) C fX2_30 dX2_finish_2 rfl HL.1 (Nat.le_of_ble_eq_true rfl) (Or.inl rfl) rfl rfl (by intro z h; cases h) ?_
  refine gLput (k := 0) (x := x) HL rfl fun h1 HL1 fr1 => ?_
  refine g_iload_n (q := 6) C dX2_finish_5 rfl rfl ?_
  refine g_iconst (v := 2) (q := 7) C dX2_finish_6 (by decide) rfl ?_
  refine g_icmp_ne (t := 23) (q := 10) C dX2_finish_7 (by decide) rfl (fun c_7 => ?_) (fun c_7 => ?_)
  ·
    refine g_aload_n (q := 24) C dX2_finish_23 rfl rfl ?_
    refine g_dup (q := 25) C dX2_finish_24 rfl rfl ?_
    refine g_getfield (v := .int ((L.set 0 x).tg)) (q := 28) C fX2_43 dX2_finish_25 rfl HL1.1 rfl ?_
    refine g_iconst (v := 1) (q := 29) C dX2_finish_28 (by decide) rfl ?_
    refine g_iadd (q := 30) C dX2_finish_29 rfl ?_
    refine g_putfield (q := 33) C fX2_43 dX2_finish_30 rfl HL1.1 (Nat.le_of_ble_eq_true rfl) (Or.inl rfl) rfl rfl (by intro z h; cases h) ?_
    refine gLput (k := 4) (x := ((L.set 0 x).tg + 1)) HL1 rfl fun h2 HL2 fr2 => ?_
    refine g_iconst (v := (-1)) (q := 34) C dX2_finish_33 (by decide) rfl ?_
    have e : rX2_finish L x = ((-1), ((L.set 0 x).set 4 ((L.set 0 x).tg + 1))) := (if_neg c_7)
    exact E.1 _ _ _ _ _ _ _ dX2_finish_34 rfl rfl (Nat.le_of_ble_eq_true rfl) (Nat.le_of_ble_eq_true rfl) ⟨by rw [e], by rw [e]; exact ⟨HL2, (gFL.trans fr1 fr2)⟩⟩
  ·
    refine g_aload_n (q := 11) C dX2_finish_10 rfl rfl ?_
    refine g_dup (q := 12) C dX2_finish_11 rfl rfl ?_
    refine g_getfield (v := .int ((L.set 0 x).td)) (q := 15) C fX2_40 dX2_finish_12 rfl HL1.1 rfl ?_
    refine g_iconst (v := 1) (q := 16) C dX2_finish_15 (by decide) rfl ?_
    refine g_iadd (q := 17) C dX2_finish_16 rfl ?_
    refine g_putfield (q := 20) C fX2_40 dX2_finish_17 rfl HL1.1 (Nat.le_of_ble_eq_true rfl) (Or.inl rfl) rfl rfl (by intro z h; cases h) ?_
    refine gLput (k := 3) (x := ((L.set 0 x).td + 1)) HL1 rfl fun h3 HL3 fr3 => ?_
    refine g_goto (q := 33) C dX2_finish_20 (by decide) ?_
    refine g_iconst (v := (-1)) (q := 34) C dX2_finish_33 (by decide) rfl ?_
    have e : rX2_finish L x = ((-1), ((L.set 0 x).set 3 ((L.set 0 x).td + 1))) := (if_pos c_7)
    exact E.1 _ _ _ _ _ _ _ dX2_finish_34 rfl rfl (Nat.le_of_ble_eq_true rfl) (Nat.le_of_ble_eq_true rfl) ⟨by rw [e], by rw [e]; exact ⟨HL3, (gFL.trans fr1 fr3)⟩⟩
def rX2_onBroken_r (L : gLn) : Int32 × gLn := (if (L.set 8 1).rd.ask = (-1) then (if (L.set 8 1).oc = 1 then ((128 + 16 * (L.set 8 1).rd.wa + 1), (L.set 8 1)) else ((128 + 16 * (L.set 8 1).rd.wa + 2), (L.set 8 1))) else ((192 + (L.set 8 1).rd.ask), (L.set 8 1)))
theorem dX2_onBroken_0 : decode cX2_onBroken 0 = .ok (.aload_n 0, 1) := by decide +kernel
theorem dX2_onBroken_1 : decode cX2_onBroken 1 = .ok (.iconst 1, 1) := by decide +kernel
theorem dX2_onBroken_2 : decode cX2_onBroken 2 = .ok (.putfield 68, 3) := by decide +kernel
theorem dX2_onBroken_5 : decode cX2_onBroken 5 = .ok (.aload_n 1, 1) := by decide +kernel
theorem dX2_onBroken_6 : decode cX2_onBroken 6 = .ok (.getfield 149, 3) := by decide +kernel
theorem dX2_onBroken_9 : decode cX2_onBroken 9 = .ok (.iconst (-1), 1) := by decide +kernel
theorem dX2_onBroken_10 : decode cX2_onBroken 10 = .ok (.if_icmp .eq 8, 3) := by decide +kernel
theorem dX2_onBroken_13 : decode cX2_onBroken 13 = .ok (.aload_n 1, 1) := by decide +kernel
theorem dX2_onBroken_14 : decode cX2_onBroken 14 = .ok (.invokevirtual 188, 3) := by decide +kernel
theorem dX2_onBroken_17 : decode cX2_onBroken 17 = .ok (.ireturn, 1) := by decide +kernel
theorem dX2_onBroken_18 : decode cX2_onBroken 18 = .ok (.aload_n 1, 1) := by decide +kernel
theorem dX2_onBroken_19 : decode cX2_onBroken 19 = .ok (.aload_n 0, 1) := by decide +kernel
theorem dX2_onBroken_20 : decode cX2_onBroken 20 = .ok (.getfield 58, 3) := by decide +kernel
theorem dX2_onBroken_23 : decode cX2_onBroken 23 = .ok (.iconst 1, 1) := by decide +kernel
theorem dX2_onBroken_24 : decode cX2_onBroken 24 = .ok (.if_icmp .ne 7, 3) := by decide +kernel
theorem dX2_onBroken_27 : decode cX2_onBroken 27 = .ok (.iconst 1, 1) := by decide +kernel
theorem dX2_onBroken_28 : decode cX2_onBroken 28 = .ok (.goto 4, 3) := by decide +kernel
theorem dX2_onBroken_31 : decode cX2_onBroken 31 = .ok (.iconst 2, 1) := by decide +kernel
theorem dX2_onBroken_32 : decode cX2_onBroken 32 = .ok (.invokevirtual 191, 3) := by decide +kernel
theorem dX2_onBroken_35 : decode cX2_onBroken 35 = .ok (.ireturn, 1) := by decide +kernel
set_option maxRecDepth 100000 in
set_option maxHeartbeats 4000000 in
theorem c_X2_onBroken_r_l {hp : List gA} {L : gLn}  (HL : gLine hp L)  : gM yX2_onBroken cX2_onBroken 2 ((some .int)) 1 21 [.ref 20, .ref 21] (hp) (0) (0) (fun v h => v = some (.int (rX2_onBroken_r L).1) ∧ (gLine h (rX2_onBroken_r L).2 ∧ gFL hp h)) := by
  refine gM_of (ls0 := [some (.ref 20), some (.ref 21)]) (by decide +kernel) (Nat.le_of_ble_eq_true rfl) rfl fun X C E => ?_
  refine g_aload_n (q := 1) C dX2_onBroken_0 rfl rfl ?_
  refine g_iconst (v := 1) (q := 2) C dX2_onBroken_1 (by decide) rfl ?_
  refine g_putfield (q := 5) C fX2_68 dX2_onBroken_2 rfl HL.1 (Nat.le_of_ble_eq_true rfl) (Or.inl rfl) rfl rfl (by intro z h; cases h) ?_
  refine gLput (k := 8) (x := 1) HL rfl fun h1 HL1 fr1 => ?_
  refine g_aload_n (q := 6) C dX2_onBroken_5 rfl rfl ?_
  refine g_getfield (v := .int ((L.set 8 1).rd.ask)) (q := 9) C fX2_149 dX2_onBroken_6 rfl HL1.2.1.1 rfl ?_
  refine g_iconst (v := (-1)) (q := 10) C dX2_onBroken_9 (by decide) rfl ?_
  refine g_icmp_eq (t := 18) (q := 13) C dX2_onBroken_10 (by decide) rfl (fun c_10 => ?_) (fun c_10 => ?_)
  ·
    refine g_aload_n (q := 19) C dX2_onBroken_18 rfl rfl ?_
    refine g_aload_n (q := 20) C dX2_onBroken_19 rfl rfl ?_
    refine g_getfield (v := .int ((L.set 8 1).oc)) (q := 23) C fX2_58 dX2_onBroken_20 rfl HL1.1 rfl ?_
    refine g_iconst (v := 1) (q := 24) C dX2_onBroken_23 (by decide) rfl ?_
    refine g_icmp_ne (t := 31) (q := 27) C dX2_onBroken_24 (by decide) rfl (fun c_24 => ?_) (fun c_24 => ?_)
    ·
      refine g_iconst (v := 2) (q := 32) C dX2_onBroken_31 (by decide) rfl ?_
      refine g_callVi (x := (128 + 16 * (L.set 8 1).rd.wa + 2)) (q := 35) (As := [.int 2]) C gyX5_receipt gvX5_receipt t_640 (c_X5_receipt_s HL1.2.1) dX2_onBroken_32 rfl HL1.2.1.1 rfl rfl rfl (Nat.le_of_ble_eq_true rfl) (Nat.le_of_ble_eq_true rfl) (Nat.le_of_ble_eq_true rfl) (Nat.le_of_ble_eq_true rfl) (Nat.le_of_ble_eq_true rfl) rfl ?_
      have e : rX2_onBroken_r L = ((128 + 16 * (L.set 8 1).rd.wa + 2), (L.set 8 1)) := ((if_pos c_10).trans (if_neg c_24))
      exact E.1 _ _ _ _ _ _ _ dX2_onBroken_35 rfl rfl (Nat.le_of_ble_eq_true rfl) (Nat.le_of_ble_eq_true rfl) ⟨by rw [e], by rw [e]; exact ⟨HL1, fr1⟩⟩
    ·
      refine g_iconst (v := 1) (q := 28) C dX2_onBroken_27 (by decide) rfl ?_
      refine g_goto (q := 32) C dX2_onBroken_28 (by decide) ?_
      refine g_callVi (x := (128 + 16 * (L.set 8 1).rd.wa + 1)) (q := 35) (As := [.int 1]) C gyX5_receipt gvX5_receipt t_640 (c_X5_receipt_s HL1.2.1) dX2_onBroken_32 rfl HL1.2.1.1 rfl rfl rfl (Nat.le_of_ble_eq_true rfl) (Nat.le_of_ble_eq_true rfl) (Nat.le_of_ble_eq_true rfl) (Nat.le_of_ble_eq_true rfl) (Nat.le_of_ble_eq_true rfl) rfl ?_
      have e : rX2_onBroken_r L = ((128 + 16 * (L.set 8 1).rd.wa + 1), (L.set 8 1)) := ((if_pos c_10).trans (if_pos c_24))
      exact E.1 _ _ _ _ _ _ _ dX2_onBroken_35 rfl rfl (Nat.le_of_ble_eq_true rfl) (Nat.le_of_ble_eq_true rfl) ⟨by rw [e], by rw [e]; exact ⟨HL1, fr1⟩⟩
  ·
    refine g_aload_n (q := 14) C dX2_onBroken_13 rfl rfl ?_
    refine g_callVi (x := (192 + (L.set 8 1).rd.ask)) (q := 17) (As := []) C gyX5_requestKind gvX5_requestKind t_639 (c_X5_requestKind_s HL1.2.1) dX2_onBroken_14 rfl HL1.2.1.1 rfl rfl rfl (Nat.le_of_ble_eq_true rfl) (Nat.le_of_ble_eq_true rfl) (Nat.le_of_ble_eq_true rfl) (Nat.le_of_ble_eq_true rfl) (Nat.le_of_ble_eq_true rfl) rfl ?_
    have e : rX2_onBroken_r L = ((192 + (L.set 8 1).rd.ask), (L.set 8 1)) := (if_neg c_10)
    exact E.1 _ _ _ _ _ _ _ dX2_onBroken_17 rfl rfl (Nat.le_of_ble_eq_true rfl) (Nat.le_of_ble_eq_true rfl) ⟨by rw [e], by rw [e]; exact ⟨HL1, fr1⟩⟩
def rX2_refuse_r (L : gLn) : Int32 × gLn := ((128 + 16 * (L.set 8 1).rd.wa + 2), (L.set 8 1))
theorem dX2_refuse_0 : decode cX2_refuse 0 = .ok (.aload_n 0, 1) := by decide +kernel
theorem dX2_refuse_1 : decode cX2_refuse 1 = .ok (.iconst 1, 1) := by decide +kernel
theorem dX2_refuse_2 : decode cX2_refuse 2 = .ok (.putfield 68, 3) := by decide +kernel
theorem dX2_refuse_5 : decode cX2_refuse 5 = .ok (.aload_n 1, 1) := by decide +kernel
theorem dX2_refuse_6 : decode cX2_refuse 6 = .ok (.iconst 2, 1) := by decide +kernel
theorem dX2_refuse_7 : decode cX2_refuse 7 = .ok (.invokevirtual 191, 3) := by decide +kernel
theorem dX2_refuse_10 : decode cX2_refuse 10 = .ok (.ireturn, 1) := by decide +kernel
set_option maxRecDepth 100000 in
set_option maxHeartbeats 4000000 in
theorem c_X2_refuse_r_l {hp : List gA} {L : gLn}  (HL : gLine hp L)  : gM yX2_refuse cX2_refuse 2 ((some .int)) 1 21 [.ref 20, .ref 21] (hp) (0) (0) (fun v h => v = some (.int (rX2_refuse_r L).1) ∧ (gLine h (rX2_refuse_r L).2 ∧ gFL hp h)) := by
  refine gM_of (ls0 := [some (.ref 20), some (.ref 21)]) (by decide +kernel) (Nat.le_of_ble_eq_true rfl) rfl fun X C E => ?_
  refine g_aload_n (q := 1) C dX2_refuse_0 rfl rfl ?_
  refine g_iconst (v := 1) (q := 2) C dX2_refuse_1 (by decide) rfl ?_
  refine g_putfield (q := 5) C fX2_68 dX2_refuse_2 rfl HL.1 (Nat.le_of_ble_eq_true rfl) (Or.inl rfl) rfl rfl (by intro z h; cases h) ?_
  refine gLput (k := 8) (x := 1) HL rfl fun h1 HL1 fr1 => ?_
  refine g_aload_n (q := 6) C dX2_refuse_5 rfl rfl ?_
  refine g_iconst (v := 2) (q := 7) C dX2_refuse_6 (by decide) rfl ?_
  refine g_callVi (x := (128 + 16 * (L.set 8 1).rd.wa + 2)) (q := 10) (As := [.int 2]) C gyX5_receipt gvX5_receipt t_640 (c_X5_receipt_s HL1.2.1) dX2_refuse_7 rfl HL1.2.1.1 rfl rfl rfl (Nat.le_of_ble_eq_true rfl) (Nat.le_of_ble_eq_true rfl) (Nat.le_of_ble_eq_true rfl) (Nat.le_of_ble_eq_true rfl) (Nat.le_of_ble_eq_true rfl) rfl ?_
  have e : rX2_refuse_r L = ((128 + 16 * (L.set 8 1).rd.wa + 2), (L.set 8 1)) := rfl
  exact E.1 _ _ _ _ _ _ _ dX2_refuse_10 rfl rfl (Nat.le_of_ble_eq_true rfl) (Nat.le_of_ble_eq_true rfl) ⟨by rw [e], by rw [e]; exact ⟨HL1, fr1⟩⟩
def rX2_isAnswerTo_r (L : gLn) : Int32 := (if (gat L.ca 1) = ((192 + L.rd.ask) + 32) then (if (gat L.ca 2) = 0 then 1 else (if (gat L.ca 3) = L.rd.ai then 1 else 0)) else 0)
theorem dX2_isAnswerTo_0 : decode cX2_isAnswerTo 0 = .ok (.aload_n 0, 1) := by decide +kernel
theorem dX2_isAnswerTo_1 : decode cX2_isAnswerTo 1 = .ok (.getfield 55, 3) := by decide +kernel
theorem dX2_isAnswerTo_4 : decode cX2_isAnswerTo 4 = .ok (.iconst 1, 1) := by decide +kernel
theorem dX2_isAnswerTo_5 : decode cX2_isAnswerTo 5 = .ok (.invokevirtual 156, 3) := by decide +kernel
theorem dX2_isAnswerTo_8 : decode cX2_isAnswerTo 8 = .ok (.aload_n 1, 1) := by decide +kernel
theorem dX2_isAnswerTo_9 : decode cX2_isAnswerTo 9 = .ok (.invokevirtual 188, 3) := by decide +kernel
theorem dX2_isAnswerTo_12 : decode cX2_isAnswerTo 12 = .ok (.bipush 32, 2) := by decide +kernel
theorem dX2_isAnswerTo_14 : decode cX2_isAnswerTo 14 = .ok (.iadd, 1) := by decide +kernel
theorem dX2_isAnswerTo_15 : decode cX2_isAnswerTo 15 = .ok (.if_icmp .eq 5, 3) := by decide +kernel
theorem dX2_isAnswerTo_18 : decode cX2_isAnswerTo 18 = .ok (.iconst 0, 1) := by decide +kernel
theorem dX2_isAnswerTo_19 : decode cX2_isAnswerTo 19 = .ok (.ireturn, 1) := by decide +kernel
theorem dX2_isAnswerTo_20 : decode cX2_isAnswerTo 20 = .ok (.aload_n 0, 1) := by decide +kernel
theorem dX2_isAnswerTo_21 : decode cX2_isAnswerTo 21 = .ok (.getfield 55, 3) := by decide +kernel
theorem dX2_isAnswerTo_24 : decode cX2_isAnswerTo 24 = .ok (.iconst 2, 1) := by decide +kernel
theorem dX2_isAnswerTo_25 : decode cX2_isAnswerTo 25 = .ok (.invokevirtual 156, 3) := by decide +kernel
theorem dX2_isAnswerTo_28 : decode cX2_isAnswerTo 28 = .ok (.ifCond .eq 18, 3) := by decide +kernel
theorem dX2_isAnswerTo_31 : decode cX2_isAnswerTo 31 = .ok (.aload_n 0, 1) := by decide +kernel
theorem dX2_isAnswerTo_32 : decode cX2_isAnswerTo 32 = .ok (.getfield 55, 3) := by decide +kernel
theorem dX2_isAnswerTo_35 : decode cX2_isAnswerTo 35 = .ok (.iconst 3, 1) := by decide +kernel
theorem dX2_isAnswerTo_36 : decode cX2_isAnswerTo 36 = .ok (.invokevirtual 156, 3) := by decide +kernel
theorem dX2_isAnswerTo_39 : decode cX2_isAnswerTo 39 = .ok (.aload_n 1, 1) := by decide +kernel
theorem dX2_isAnswerTo_40 : decode cX2_isAnswerTo 40 = .ok (.getfield 194, 3) := by decide +kernel
theorem dX2_isAnswerTo_43 : decode cX2_isAnswerTo 43 = .ok (.if_icmp .ne 7, 3) := by decide +kernel
theorem dX2_isAnswerTo_46 : decode cX2_isAnswerTo 46 = .ok (.iconst 1, 1) := by decide +kernel
theorem dX2_isAnswerTo_47 : decode cX2_isAnswerTo 47 = .ok (.goto 4, 3) := by decide +kernel
theorem dX2_isAnswerTo_50 : decode cX2_isAnswerTo 50 = .ok (.iconst 0, 1) := by decide +kernel
theorem dX2_isAnswerTo_51 : decode cX2_isAnswerTo 51 = .ok (.ireturn, 1) := by decide +kernel
set_option maxRecDepth 100000 in
set_option maxHeartbeats 4000000 in
theorem c_X2_isAnswerTo_r_l {hp : List gA} {L : gLn}  (HL : gLine hp L)  : gM yX2_isAnswerTo cX2_isAnswerTo 2 ((some .boolean)) 1 21 [.ref 20, .ref 21] (hp) (0) (0) (fun v h => v = some (.int (rX2_isAnswerTo_r L)) ∧ h = hp) := by
  refine gM_of (ls0 := [some (.ref 20), some (.ref 21)]) (by decide +kernel) (Nat.le_of_ble_eq_true rfl) rfl fun X C E => ?_
  refine g_aload_n (q := 1) C dX2_isAnswerTo_0 rfl rfl ?_
  refine g_getfield (v := .ref 41) (q := 4) C fX2_55 dX2_isAnswerTo_1 rfl HL.1 rfl ?_
  refine g_iconst (v := 1) (q := 5) C dX2_isAnswerTo_4 (by decide) rfl ?_
  refine g_callVi (x := (gat L.ca 1)) (q := 8) (As := [.int 1]) C gyX4_at gvX4_at t_644 (c_X4_at_w HL.2.2.2.2) dX2_isAnswerTo_5 rfl (gRw.obj HL.2.2.2.2) rfl rfl rfl (Nat.le_of_ble_eq_true rfl) (Nat.le_of_ble_eq_true rfl) (Nat.le_of_ble_eq_true rfl) (Nat.le_of_ble_eq_true rfl) (Nat.le_of_ble_eq_true rfl) rfl ?_
  refine g_aload_n (q := 9) C dX2_isAnswerTo_8 rfl rfl ?_
  refine g_callVi (x := (192 + L.rd.ask)) (q := 12) (As := []) C gyX5_requestKind gvX5_requestKind t_639 (c_X5_requestKind_s HL.2.1) dX2_isAnswerTo_9 rfl HL.2.1.1 rfl rfl rfl (Nat.le_of_ble_eq_true rfl) (Nat.le_of_ble_eq_true rfl) (Nat.le_of_ble_eq_true rfl) (Nat.le_of_ble_eq_true rfl) (Nat.le_of_ble_eq_true rfl) rfl ?_
  refine g_bipush (v := 32) (q := 14) C dX2_isAnswerTo_12 (by decide) rfl ?_
  refine g_iadd (q := 15) C dX2_isAnswerTo_14 rfl ?_
  refine g_icmp_eq (t := 20) (q := 18) C dX2_isAnswerTo_15 (by decide) rfl (fun c_15 => ?_) (fun c_15 => ?_)
  ·
    refine g_aload_n (q := 21) C dX2_isAnswerTo_20 rfl rfl ?_
    refine g_getfield (v := .ref 41) (q := 24) C fX2_55 dX2_isAnswerTo_21 rfl HL.1 rfl ?_
    refine g_iconst (v := 2) (q := 25) C dX2_isAnswerTo_24 (by decide) rfl ?_
    refine g_callVi (x := (gat L.ca 2)) (q := 28) (As := [.int 2]) C gyX4_at gvX4_at t_644 (c_X4_at_w HL.2.2.2.2) dX2_isAnswerTo_25 rfl (gRw.obj HL.2.2.2.2) rfl rfl rfl (Nat.le_of_ble_eq_true rfl) (Nat.le_of_ble_eq_true rfl) (Nat.le_of_ble_eq_true rfl) (Nat.le_of_ble_eq_true rfl) (Nat.le_of_ble_eq_true rfl) rfl ?_
    refine g_if_eq (t := 46) (q := 31) C dX2_isAnswerTo_28 (by decide) rfl (fun c_28 => ?_) (fun c_28 => ?_)
    ·
      refine g_iconst (v := 1) (q := 47) C dX2_isAnswerTo_46 (by decide) rfl ?_
      refine g_goto (q := 51) C dX2_isAnswerTo_47 (by decide) ?_
      have e : rX2_isAnswerTo_r L = (1) := ((if_pos c_15).trans (if_pos c_28))
      exact E.1 _ _ _ _ _ _ _ dX2_isAnswerTo_51 rfl rfl (Nat.le_of_ble_eq_true rfl) (Nat.le_of_ble_eq_true rfl) ⟨by rw [e], rfl⟩
    ·
      refine g_aload_n (q := 32) C dX2_isAnswerTo_31 rfl rfl ?_
      refine g_getfield (v := .ref 41) (q := 35) C fX2_55 dX2_isAnswerTo_32 rfl HL.1 rfl ?_
      refine g_iconst (v := 3) (q := 36) C dX2_isAnswerTo_35 (by decide) rfl ?_
      refine g_callVi (x := (gat L.ca 3)) (q := 39) (As := [.int 3]) C gyX4_at gvX4_at t_644 (c_X4_at_w HL.2.2.2.2) dX2_isAnswerTo_36 rfl (gRw.obj HL.2.2.2.2) rfl rfl rfl (Nat.le_of_ble_eq_true rfl) (Nat.le_of_ble_eq_true rfl) (Nat.le_of_ble_eq_true rfl) (Nat.le_of_ble_eq_true rfl) (Nat.le_of_ble_eq_true rfl) rfl ?_
      refine g_aload_n (q := 40) C dX2_isAnswerTo_39 rfl rfl ?_
      refine g_getfield (v := .int L.rd.ai) (q := 43) C fX2_194 dX2_isAnswerTo_40 rfl HL.2.1.1 rfl ?_
      refine g_icmp_ne (t := 50) (q := 46) C dX2_isAnswerTo_43 (by decide) rfl (fun c_43 => ?_) (fun c_43 => ?_)
      ·
        refine g_iconst (v := 0) (q := 51) C dX2_isAnswerTo_50 (by decide) rfl ?_
        have e : rX2_isAnswerTo_r L = (0) := ((if_pos c_15).trans ((if_neg c_28).trans (if_neg c_43)))
        exact E.1 _ _ _ _ _ _ _ dX2_isAnswerTo_51 rfl rfl (Nat.le_of_ble_eq_true rfl) (Nat.le_of_ble_eq_true rfl) ⟨by rw [e], rfl⟩
      ·
        refine g_iconst (v := 1) (q := 47) C dX2_isAnswerTo_46 (by decide) rfl ?_
        refine g_goto (q := 51) C dX2_isAnswerTo_47 (by decide) ?_
        have e : rX2_isAnswerTo_r L = (1) := ((if_pos c_15).trans ((if_neg c_28).trans (if_pos c_43)))
        exact E.1 _ _ _ _ _ _ _ dX2_isAnswerTo_51 rfl rfl (Nat.le_of_ble_eq_true rfl) (Nat.le_of_ble_eq_true rfl) ⟨by rw [e], rfl⟩
  ·
    refine g_iconst (v := 0) (q := 19) C dX2_isAnswerTo_18 (by decide) rfl ?_
    have e : rX2_isAnswerTo_r L = (0) := (if_neg c_15)
    exact E.1 _ _ _ _ _ _ _ dX2_isAnswerTo_19 rfl rfl (Nat.le_of_ble_eq_true rfl) (Nat.le_of_ble_eq_true rfl) ⟨by rw [e], rfl⟩
def rX2_onBroken_c (L : gLn) : Int32 × gLn := (if (L.set 8 1).cd.ask = (-1) then (if (L.set 8 1).oc = 1 then ((128 + 16 * (L.set 8 1).cd.wa + 1), (L.set 8 1)) else ((128 + 16 * (L.set 8 1).cd.wa + 2), (L.set 8 1))) else ((192 + (L.set 8 1).cd.ask), (L.set 8 1)))
set_option maxRecDepth 100000 in
set_option maxHeartbeats 4000000 in
theorem c_X2_onBroken_c_l {hp : List gA} {L : gLn}  (HL : gLine hp L)  : gM yX2_onBroken cX2_onBroken 2 ((some .int)) 1 21 [.ref 20, .ref 28] (hp) (0) (0) (fun v h => v = some (.int (rX2_onBroken_c L).1) ∧ (gLine h (rX2_onBroken_c L).2 ∧ gFL hp h)) := by
  refine gM_of (ls0 := [some (.ref 20), some (.ref 28)]) (by decide +kernel) (Nat.le_of_ble_eq_true rfl) rfl fun X C E => ?_
  refine g_aload_n (q := 1) C dX2_onBroken_0 rfl rfl ?_
  refine g_iconst (v := 1) (q := 2) C dX2_onBroken_1 (by decide) rfl ?_
  refine g_putfield (q := 5) C fX2_68 dX2_onBroken_2 rfl HL.1 (Nat.le_of_ble_eq_true rfl) (Or.inl rfl) rfl rfl (by intro z h; cases h) ?_
  refine gLput (k := 8) (x := 1) HL rfl fun h1 HL1 fr1 => ?_
  refine g_aload_n (q := 6) C dX2_onBroken_5 rfl rfl ?_
  refine g_getfield (v := .int ((L.set 8 1).cd.ask)) (q := 9) C fX2_149 dX2_onBroken_6 rfl HL1.2.2.1.1 rfl ?_
  refine g_iconst (v := (-1)) (q := 10) C dX2_onBroken_9 (by decide) rfl ?_
  refine g_icmp_eq (t := 18) (q := 13) C dX2_onBroken_10 (by decide) rfl (fun c_10 => ?_) (fun c_10 => ?_)
  ·
    refine g_aload_n (q := 19) C dX2_onBroken_18 rfl rfl ?_
    refine g_aload_n (q := 20) C dX2_onBroken_19 rfl rfl ?_
    refine g_getfield (v := .int ((L.set 8 1).oc)) (q := 23) C fX2_58 dX2_onBroken_20 rfl HL1.1 rfl ?_
    refine g_iconst (v := 1) (q := 24) C dX2_onBroken_23 (by decide) rfl ?_
    refine g_icmp_ne (t := 31) (q := 27) C dX2_onBroken_24 (by decide) rfl (fun c_24 => ?_) (fun c_24 => ?_)
    ·
      refine g_iconst (v := 2) (q := 32) C dX2_onBroken_31 (by decide) rfl ?_
      refine g_callVi (x := (128 + 16 * (L.set 8 1).cd.wa + 2)) (q := 35) (As := [.int 2]) C gyX5_receipt gvX5_receipt t_640 (c_X5_receipt_s HL1.2.2.1) dX2_onBroken_32 rfl HL1.2.2.1.1 rfl rfl rfl (Nat.le_of_ble_eq_true rfl) (Nat.le_of_ble_eq_true rfl) (Nat.le_of_ble_eq_true rfl) (Nat.le_of_ble_eq_true rfl) (Nat.le_of_ble_eq_true rfl) rfl ?_
      have e : rX2_onBroken_c L = ((128 + 16 * (L.set 8 1).cd.wa + 2), (L.set 8 1)) := ((if_pos c_10).trans (if_neg c_24))
      exact E.1 _ _ _ _ _ _ _ dX2_onBroken_35 rfl rfl (Nat.le_of_ble_eq_true rfl) (Nat.le_of_ble_eq_true rfl) ⟨by rw [e], by rw [e]; exact ⟨HL1, fr1⟩⟩
    ·
      refine g_iconst (v := 1) (q := 28) C dX2_onBroken_27 (by decide) rfl ?_
      refine g_goto (q := 32) C dX2_onBroken_28 (by decide) ?_
      refine g_callVi (x := (128 + 16 * (L.set 8 1).cd.wa + 1)) (q := 35) (As := [.int 1]) C gyX5_receipt gvX5_receipt t_640 (c_X5_receipt_s HL1.2.2.1) dX2_onBroken_32 rfl HL1.2.2.1.1 rfl rfl rfl (Nat.le_of_ble_eq_true rfl) (Nat.le_of_ble_eq_true rfl) (Nat.le_of_ble_eq_true rfl) (Nat.le_of_ble_eq_true rfl) (Nat.le_of_ble_eq_true rfl) rfl ?_
      have e : rX2_onBroken_c L = ((128 + 16 * (L.set 8 1).cd.wa + 1), (L.set 8 1)) := ((if_pos c_10).trans (if_pos c_24))
      exact E.1 _ _ _ _ _ _ _ dX2_onBroken_35 rfl rfl (Nat.le_of_ble_eq_true rfl) (Nat.le_of_ble_eq_true rfl) ⟨by rw [e], by rw [e]; exact ⟨HL1, fr1⟩⟩
  ·
    refine g_aload_n (q := 14) C dX2_onBroken_13 rfl rfl ?_
    refine g_callVi (x := (192 + (L.set 8 1).cd.ask)) (q := 17) (As := []) C gyX5_requestKind gvX5_requestKind t_639 (c_X5_requestKind_s HL1.2.2.1) dX2_onBroken_14 rfl HL1.2.2.1.1 rfl rfl rfl (Nat.le_of_ble_eq_true rfl) (Nat.le_of_ble_eq_true rfl) (Nat.le_of_ble_eq_true rfl) (Nat.le_of_ble_eq_true rfl) (Nat.le_of_ble_eq_true rfl) rfl ?_
    have e : rX2_onBroken_c L = ((192 + (L.set 8 1).cd.ask), (L.set 8 1)) := (if_neg c_10)
    exact E.1 _ _ _ _ _ _ _ dX2_onBroken_17 rfl rfl (Nat.le_of_ble_eq_true rfl) (Nat.le_of_ble_eq_true rfl) ⟨by rw [e], by rw [e]; exact ⟨HL1, fr1⟩⟩
def rX2_refuse_c (L : gLn) : Int32 × gLn := ((128 + 16 * (L.set 8 1).cd.wa + 2), (L.set 8 1))
set_option maxRecDepth 100000 in
set_option maxHeartbeats 4000000 in
theorem c_X2_refuse_c_l {hp : List gA} {L : gLn}  (HL : gLine hp L)  : gM yX2_refuse cX2_refuse 2 ((some .int)) 1 21 [.ref 20, .ref 28] (hp) (0) (0) (fun v h => v = some (.int (rX2_refuse_c L).1) ∧ (gLine h (rX2_refuse_c L).2 ∧ gFL hp h)) := by
  refine gM_of (ls0 := [some (.ref 20), some (.ref 28)]) (by decide +kernel) (Nat.le_of_ble_eq_true rfl) rfl fun X C E => ?_
  refine g_aload_n (q := 1) C dX2_refuse_0 rfl rfl ?_
  refine g_iconst (v := 1) (q := 2) C dX2_refuse_1 (by decide) rfl ?_
  refine g_putfield (q := 5) C fX2_68 dX2_refuse_2 rfl HL.1 (Nat.le_of_ble_eq_true rfl) (Or.inl rfl) rfl rfl (by intro z h; cases h) ?_
  refine gLput (k := 8) (x := 1) HL rfl fun h1 HL1 fr1 => ?_
  refine g_aload_n (q := 6) C dX2_refuse_5 rfl rfl ?_
  refine g_iconst (v := 2) (q := 7) C dX2_refuse_6 (by decide) rfl ?_
  refine g_callVi (x := (128 + 16 * (L.set 8 1).cd.wa + 2)) (q := 10) (As := [.int 2]) C gyX5_receipt gvX5_receipt t_640 (c_X5_receipt_s HL1.2.2.1) dX2_refuse_7 rfl HL1.2.2.1.1 rfl rfl rfl (Nat.le_of_ble_eq_true rfl) (Nat.le_of_ble_eq_true rfl) (Nat.le_of_ble_eq_true rfl) (Nat.le_of_ble_eq_true rfl) (Nat.le_of_ble_eq_true rfl) rfl ?_
  have e : rX2_refuse_c L = ((128 + 16 * (L.set 8 1).cd.wa + 2), (L.set 8 1)) := rfl
  exact E.1 _ _ _ _ _ _ _ dX2_refuse_10 rfl rfl (Nat.le_of_ble_eq_true rfl) (Nat.le_of_ble_eq_true rfl) ⟨by rw [e], by rw [e]; exact ⟨HL1, fr1⟩⟩
def rX2_isAnswerTo_c (L : gLn) : Int32 := (if (gat L.ca 1) = ((192 + L.cd.ask) + 32) then (if (gat L.ca 2) = 0 then 1 else (if (gat L.ca 3) = L.cd.ai then 1 else 0)) else 0)
set_option maxRecDepth 100000 in
set_option maxHeartbeats 4000000 in
theorem c_X2_isAnswerTo_c_l {hp : List gA} {L : gLn}  (HL : gLine hp L)  : gM yX2_isAnswerTo cX2_isAnswerTo 2 ((some .boolean)) 1 21 [.ref 20, .ref 28] (hp) (0) (0) (fun v h => v = some (.int (rX2_isAnswerTo_c L)) ∧ h = hp) := by
  refine gM_of (ls0 := [some (.ref 20), some (.ref 28)]) (by decide +kernel) (Nat.le_of_ble_eq_true rfl) rfl fun X C E => ?_
  refine g_aload_n (q := 1) C dX2_isAnswerTo_0 rfl rfl ?_
  refine g_getfield (v := .ref 41) (q := 4) C fX2_55 dX2_isAnswerTo_1 rfl HL.1 rfl ?_
  refine g_iconst (v := 1) (q := 5) C dX2_isAnswerTo_4 (by decide) rfl ?_
  refine g_callVi (x := (gat L.ca 1)) (q := 8) (As := [.int 1]) C gyX4_at gvX4_at t_644 (c_X4_at_w HL.2.2.2.2) dX2_isAnswerTo_5 rfl (gRw.obj HL.2.2.2.2) rfl rfl rfl (Nat.le_of_ble_eq_true rfl) (Nat.le_of_ble_eq_true rfl) (Nat.le_of_ble_eq_true rfl) (Nat.le_of_ble_eq_true rfl) (Nat.le_of_ble_eq_true rfl) rfl ?_
  refine g_aload_n (q := 9) C dX2_isAnswerTo_8 rfl rfl ?_
  refine g_callVi (x := (192 + L.cd.ask)) (q := 12) (As := []) C gyX5_requestKind gvX5_requestKind t_639 (c_X5_requestKind_s HL.2.2.1) dX2_isAnswerTo_9 rfl HL.2.2.1.1 rfl rfl rfl (Nat.le_of_ble_eq_true rfl) (Nat.le_of_ble_eq_true rfl) (Nat.le_of_ble_eq_true rfl) (Nat.le_of_ble_eq_true rfl) (Nat.le_of_ble_eq_true rfl) rfl ?_
  refine g_bipush (v := 32) (q := 14) C dX2_isAnswerTo_12 (by decide) rfl ?_
  refine g_iadd (q := 15) C dX2_isAnswerTo_14 rfl ?_
  refine g_icmp_eq (t := 20) (q := 18) C dX2_isAnswerTo_15 (by decide) rfl (fun c_15 => ?_) (fun c_15 => ?_)
  ·
    refine g_aload_n (q := 21) C dX2_isAnswerTo_20 rfl rfl ?_
    refine g_getfield (v := .ref 41) (q := 24) C fX2_55 dX2_isAnswerTo_21 rfl HL.1 rfl ?_
    refine g_iconst (v := 2) (q := 25) C dX2_isAnswerTo_24 (by decide) rfl ?_
    refine g_callVi (x := (gat L.ca 2)) (q := 28) (As := [.int 2]) C gyX4_at gvX4_at t_644 (c_X4_at_w HL.2.2.2.2) dX2_isAnswerTo_25 rfl (gRw.obj HL.2.2.2.2) rfl rfl rfl (Nat.le_of_ble_eq_true rfl) (Nat.le_of_ble_eq_true rfl) (Nat.le_of_ble_eq_true rfl) (Nat.le_of_ble_eq_true rfl) (Nat.le_of_ble_eq_true rfl) rfl ?_
    refine g_if_eq (t := 46) (q := 31) C dX2_isAnswerTo_28 (by decide) rfl (fun c_28 => ?_) (fun c_28 => ?_)
    ·
      refine g_iconst (v := 1) (q := 47) C dX2_isAnswerTo_46 (by decide) rfl ?_
      refine g_goto (q := 51) C dX2_isAnswerTo_47 (by decide) ?_
      have e : rX2_isAnswerTo_c L = (1) := ((if_pos c_15).trans (if_pos c_28))
      exact E.1 _ _ _ _ _ _ _ dX2_isAnswerTo_51 rfl rfl (Nat.le_of_ble_eq_true rfl) (Nat.le_of_ble_eq_true rfl) ⟨by rw [e], rfl⟩
    ·
      refine g_aload_n (q := 32) C dX2_isAnswerTo_31 rfl rfl ?_
      refine g_getfield (v := .ref 41) (q := 35) C fX2_55 dX2_isAnswerTo_32 rfl HL.1 rfl ?_
      refine g_iconst (v := 3) (q := 36) C dX2_isAnswerTo_35 (by decide) rfl ?_
      refine g_callVi (x := (gat L.ca 3)) (q := 39) (As := [.int 3]) C gyX4_at gvX4_at t_644 (c_X4_at_w HL.2.2.2.2) dX2_isAnswerTo_36 rfl (gRw.obj HL.2.2.2.2) rfl rfl rfl (Nat.le_of_ble_eq_true rfl) (Nat.le_of_ble_eq_true rfl) (Nat.le_of_ble_eq_true rfl) (Nat.le_of_ble_eq_true rfl) (Nat.le_of_ble_eq_true rfl) rfl ?_
      refine g_aload_n (q := 40) C dX2_isAnswerTo_39 rfl rfl ?_
      refine g_getfield (v := .int L.cd.ai) (q := 43) C fX2_194 dX2_isAnswerTo_40 rfl HL.2.2.1.1 rfl ?_
      refine g_icmp_ne (t := 50) (q := 46) C dX2_isAnswerTo_43 (by decide) rfl (fun c_43 => ?_) (fun c_43 => ?_)
      ·
        refine g_iconst (v := 0) (q := 51) C dX2_isAnswerTo_50 (by decide) rfl ?_
        have e : rX2_isAnswerTo_c L = (0) := ((if_pos c_15).trans ((if_neg c_28).trans (if_neg c_43)))
        exact E.1 _ _ _ _ _ _ _ dX2_isAnswerTo_51 rfl rfl (Nat.le_of_ble_eq_true rfl) (Nat.le_of_ble_eq_true rfl) ⟨by rw [e], rfl⟩
      ·
        refine g_iconst (v := 1) (q := 47) C dX2_isAnswerTo_46 (by decide) rfl ?_
        refine g_goto (q := 51) C dX2_isAnswerTo_47 (by decide) ?_
        have e : rX2_isAnswerTo_c L = (1) := ((if_pos c_15).trans ((if_neg c_28).trans (if_pos c_43)))
        exact E.1 _ _ _ _ _ _ _ dX2_isAnswerTo_51 rfl rfl (Nat.le_of_ble_eq_true rfl) (Nat.le_of_ble_eq_true rfl) ⟨by rw [e], rfl⟩
  ·
    refine g_iconst (v := 0) (q := 19) C dX2_isAnswerTo_18 (by decide) rfl ?_
    have e : rX2_isAnswerTo_c L = (0) := (if_neg c_15)
    exact E.1 _ _ _ _ _ _ _ dX2_isAnswerTo_19 rfl rfl (Nat.le_of_ble_eq_true rfl) (Nat.le_of_ble_eq_true rfl) ⟨by rw [e], rfl⟩
def rX2_blocksSent (L : gLn) : Int32 := (L.rd.se + L.cd.se)
theorem dX2_blocksSent_0 : decode cX2_blocksSent 0 = .ok (.aload_n 0, 1) := by decide +kernel
theorem dX2_blocksSent_1 : decode cX2_blocksSent 1 = .ok (.getfield 14, 3) := by decide +kernel
theorem dX2_blocksSent_4 : decode cX2_blocksSent 4 = .ok (.invokevirtual 118, 3) := by decide +kernel
theorem dX2_blocksSent_7 : decode cX2_blocksSent 7 = .ok (.aload_n 0, 1) := by decide +kernel
theorem dX2_blocksSent_8 : decode cX2_blocksSent 8 = .ok (.getfield 20, 3) := by decide +kernel
theorem dX2_blocksSent_11 : decode cX2_blocksSent 11 = .ok (.invokevirtual 118, 3) := by decide +kernel
theorem dX2_blocksSent_14 : decode cX2_blocksSent 14 = .ok (.iadd, 1) := by decide +kernel
theorem dX2_blocksSent_15 : decode cX2_blocksSent 15 = .ok (.ireturn, 1) := by decide +kernel
set_option maxRecDepth 100000 in
set_option maxHeartbeats 4000000 in
theorem c_X2_blocksSent_l {hp : List gA} {L : gLn}  (HL : gLine hp L)  : gM yX2_blocksSent cX2_blocksSent 1 ((some .int)) 1 20 [.ref 20] (hp) (0) (0) (fun v h => v = some (.int (rX2_blocksSent L)) ∧ h = hp) := by
  refine gM_of (ls0 := [some (.ref 20)]) (by decide +kernel) (Nat.le_of_ble_eq_true rfl) rfl fun X C E => ?_
  refine g_aload_n (q := 1) C dX2_blocksSent_0 rfl rfl ?_
  refine g_getfield (v := .ref 21) (q := 4) C fX2_14 dX2_blocksSent_1 rfl HL.1 rfl ?_
  refine g_callVi (x := L.rd.se) (q := 7) (As := []) C gyX5_blocksSent gvX5_blocksSent t_611 (c_X5_blocksSent_s HL.2.1) dX2_blocksSent_4 rfl HL.2.1.1 rfl rfl rfl (Nat.le_of_ble_eq_true rfl) (Nat.le_of_ble_eq_true rfl) (Nat.le_of_ble_eq_true rfl) (Nat.le_of_ble_eq_true rfl) (Nat.le_of_ble_eq_true rfl) rfl ?_
  refine g_aload_n (q := 8) C dX2_blocksSent_7 rfl rfl ?_
  refine g_getfield (v := .ref 28) (q := 11) C fX2_20 dX2_blocksSent_8 rfl HL.1 rfl ?_
  refine g_callVi (x := L.cd.se) (q := 14) (As := []) C gyX5_blocksSent gvX5_blocksSent t_611 (c_X5_blocksSent_s HL.2.2.1) dX2_blocksSent_11 rfl HL.2.2.1.1 rfl rfl rfl (Nat.le_of_ble_eq_true rfl) (Nat.le_of_ble_eq_true rfl) (Nat.le_of_ble_eq_true rfl) (Nat.le_of_ble_eq_true rfl) (Nat.le_of_ble_eq_true rfl) rfl ?_
  refine g_iadd (q := 15) C dX2_blocksSent_14 rfl ?_
  have e : rX2_blocksSent L = ((L.rd.se + L.cd.se)) := rfl
  exact E.1 _ _ _ _ _ _ _ dX2_blocksSent_15 rfl rfl (Nat.le_of_ble_eq_true rfl) (Nat.le_of_ble_eq_true rfl) ⟨by rw [e], rfl⟩
def rX2_firstKind (L : gLn) : Int32 × gLn := (if ((L.set 6 0).set 1 0).rw = (-1) then ((-2), ((L.set 6 0).set 1 0)) else ((192 + 1), (((L.set 6 0).set 1 0).side 0 ((((L.set 6 0).set 1 0).rd.set 4 1).set 5 (((L.set 6 0).set 1 0).rw)))))
theorem dX2_firstKind_0 : decode cX2_firstKind 0 = .ok (.aload_n 0, 1) := by decide +kernel
theorem dX2_firstKind_1 : decode cX2_firstKind 1 = .ok (.iconst 0, 1) := by decide +kernel
theorem dX2_firstKind_2 : decode cX2_firstKind 2 = .ok (.putfield 61, 3) := by decide +kernel
theorem dX2_firstKind_5 : decode cX2_firstKind 5 = .ok (.aload_n 0, 1) := by decide +kernel
theorem dX2_firstKind_6 : decode cX2_firstKind 6 = .ok (.iconst 0, 1) := by decide +kernel
theorem dX2_firstKind_7 : decode cX2_firstKind 7 = .ok (.putfield 34, 3) := by decide +kernel
theorem dX2_firstKind_10 : decode cX2_firstKind 10 = .ok (.aload_n 0, 1) := by decide +kernel
theorem dX2_firstKind_11 : decode cX2_firstKind 11 = .ok (.getfield 65, 3) := by decide +kernel
theorem dX2_firstKind_14 : decode cX2_firstKind 14 = .ok (.iconst (-1), 1) := by decide +kernel
theorem dX2_firstKind_15 : decode cX2_firstKind 15 = .ok (.if_icmp .ne 8, 3) := by decide +kernel
theorem dX2_firstKind_18 : decode cX2_firstKind 18 = .ok (.bipush (-2), 2) := by decide +kernel
theorem dX2_firstKind_20 : decode cX2_firstKind 20 = .ok (.goto 15, 3) := by decide +kernel
theorem dX2_firstKind_23 : decode cX2_firstKind 23 = .ok (.aload_n 0, 1) := by decide +kernel
theorem dX2_firstKind_24 : decode cX2_firstKind 24 = .ok (.getfield 14, 3) := by decide +kernel
theorem dX2_firstKind_27 : decode cX2_firstKind 27 = .ok (.iconst 1, 1) := by decide +kernel
theorem dX2_firstKind_28 : decode cX2_firstKind 28 = .ok (.aload_n 0, 1) := by decide +kernel
theorem dX2_firstKind_29 : decode cX2_firstKind 29 = .ok (.getfield 65, 3) := by decide +kernel
theorem dX2_firstKind_32 : decode cX2_firstKind 32 = .ok (.invokevirtual 145, 3) := by decide +kernel
theorem dX2_firstKind_35 : decode cX2_firstKind 35 = .ok (.ireturn, 1) := by decide +kernel
set_option maxRecDepth 100000 in
set_option maxHeartbeats 4000000 in
theorem c_X2_firstKind_l {hp : List gA} {L : gLn}  (HL : gLine hp L)  : gM yX2_firstKind cX2_firstKind 1 ((some .int)) 2 42 [.ref 20] (hp) (0) (0) (fun v h => v = some (.int (rX2_firstKind L).1) ∧ (gLine h (rX2_firstKind L).2 ∧ gFL hp h)) := by
  refine gM_of (ls0 := [some (.ref 20)]) (by decide +kernel) (Nat.le_of_ble_eq_true rfl) rfl fun X C E => ?_
  refine g_aload_n (q := 1) C dX2_firstKind_0 rfl rfl ?_
  refine g_iconst (v := 0) (q := 2) C dX2_firstKind_1 (by decide) rfl ?_
  refine g_putfield (q := 5) C fX2_61 dX2_firstKind_2 rfl HL.1 (Nat.le_of_ble_eq_true rfl) (Or.inl rfl) rfl rfl (by intro z h; cases h) ?_
  refine gLput (k := 6) (x := 0) HL rfl fun h1 HL1 fr1 => ?_
  refine g_aload_n (q := 6) C dX2_firstKind_5 rfl rfl ?_
  refine g_iconst (v := 0) (q := 7) C dX2_firstKind_6 (by decide) rfl ?_
  refine g_putfield (q := 10) C fX2_34 dX2_firstKind_7 rfl HL1.1 (Nat.le_of_ble_eq_true rfl) (Or.inl rfl) rfl rfl (by intro z h; cases h) ?_
  refine gLput (k := 1) (x := 0) HL1 rfl fun h2 HL2 fr2 => ?_
  refine g_aload_n (q := 11) C dX2_firstKind_10 rfl rfl ?_
  refine g_getfield (v := .int (((L.set 6 0).set 1 0).rw)) (q := 14) C fX2_65 dX2_firstKind_11 rfl HL2.1 rfl ?_
  refine g_iconst (v := (-1)) (q := 15) C dX2_firstKind_14 (by decide) rfl ?_
  refine g_icmp_ne (t := 23) (q := 18) C dX2_firstKind_15 (by decide) rfl (fun c_15 => ?_) (fun c_15 => ?_)
  ·
    refine g_aload_n (q := 24) C dX2_firstKind_23 rfl rfl ?_
    refine g_getfield (v := .ref 21) (q := 27) C fX2_14 dX2_firstKind_24 rfl HL2.1 rfl ?_
    refine g_iconst (v := 1) (q := 28) C dX2_firstKind_27 (by decide) rfl ?_
    refine g_aload_n (q := 29) C dX2_firstKind_28 rfl rfl ?_
    refine g_getfield (v := .int (((L.set 6 0).set 1 0).rw)) (q := 32) C fX2_65 dX2_firstKind_29 rfl HL2.1 rfl ?_
    refine g_callVix (x := (192 + 1)) (q := 35) (As := [.int 1, .int (((L.set 6 0).set 1 0).rw)]) C gyX5_ask gvX5_ask t_623 (c_X5_ask_s HL2.2.1) dX2_firstKind_32 rfl HL2.2.1.1 rfl rfl rfl (Nat.le_of_ble_eq_true rfl) (Nat.le_of_ble_eq_true rfl) (Nat.le_of_ble_eq_true rfl) (Nat.le_of_ble_eq_true rfl) (Nat.le_of_ble_eq_true rfl) rfl (fun h3 z3 => ?_)
    obtain ⟨HL3, fr3⟩ := gLine.rd_ HL2 z3
    have e : rX2_firstKind L = ((192 + 1), (((L.set 6 0).set 1 0).side 0 ((((L.set 6 0).set 1 0).rd.set 4 1).set 5 (((L.set 6 0).set 1 0).rw)))) := (if_neg c_15)
    exact E.1 _ _ _ _ _ _ _ dX2_firstKind_35 rfl rfl (Nat.le_of_ble_eq_true rfl) (Nat.le_of_ble_eq_true rfl) ⟨by rw [e], by rw [e]; exact ⟨HL3, (gFL.trans (gFL.trans fr1 fr2) fr3)⟩⟩
  ·
    refine g_bipush (v := (-2)) (q := 20) C dX2_firstKind_18 (by decide) rfl ?_
    refine g_goto (q := 35) C dX2_firstKind_20 (by decide) ?_
    have e : rX2_firstKind L = ((-2), ((L.set 6 0).set 1 0)) := (if_pos c_15)
    exact E.1 _ _ _ _ _ _ _ dX2_firstKind_35 rfl rfl (Nat.le_of_ble_eq_true rfl) (Nat.le_of_ble_eq_true rfl) ⟨by rw [e], by rw [e]; exact ⟨HL2, (gFL.trans fr1 fr2)⟩⟩
def rX2_countTries (L : gLn) (x : Int32) : Int32 × gLn := (if L.sk = 0 then (if 3 ≤ (L.set 1 0).tr then (if ((L.set 1 0).set 1 0).rd.ask = 0 then ((-1), (((L.set 1 0).set 1 0).set 0 4)) else ((192 + 0), (((L.set 1 0).set 1 0).side 0 ((((L.set 1 0).set 1 0).rd.set 4 0).set 5 0)))) else (x, (L.set 1 0))) else (if 3 ≤ (L.set 1 (L.tr + 1)).tr then (if ((L.set 1 (L.tr + 1)).set 1 0).rd.ask = 0 then ((-1), (((L.set 1 (L.tr + 1)).set 1 0).set 0 4)) else ((192 + 0), (((L.set 1 (L.tr + 1)).set 1 0).side 0 ((((L.set 1 (L.tr + 1)).set 1 0).rd.set 4 0).set 5 0)))) else (x, (L.set 1 (L.tr + 1)))))
theorem dX2_countTries_0 : decode cX2_countTries 0 = .ok (.aload_n 0, 1) := by decide +kernel
theorem dX2_countTries_1 : decode cX2_countTries 1 = .ok (.aload_n 0, 1) := by decide +kernel
theorem dX2_countTries_2 : decode cX2_countTries 2 = .ok (.getfield 68, 3) := by decide +kernel
theorem dX2_countTries_5 : decode cX2_countTries 5 = .ok (.ifCond .eq 12, 3) := by decide +kernel
theorem dX2_countTries_8 : decode cX2_countTries 8 = .ok (.aload_n 0, 1) := by decide +kernel
theorem dX2_countTries_9 : decode cX2_countTries 9 = .ok (.getfield 34, 3) := by decide +kernel
theorem dX2_countTries_12 : decode cX2_countTries 12 = .ok (.iconst 1, 1) := by decide +kernel
theorem dX2_countTries_13 : decode cX2_countTries 13 = .ok (.iadd, 1) := by decide +kernel
theorem dX2_countTries_14 : decode cX2_countTries 14 = .ok (.goto 4, 3) := by decide +kernel
theorem dX2_countTries_17 : decode cX2_countTries 17 = .ok (.iconst 0, 1) := by decide +kernel
theorem dX2_countTries_18 : decode cX2_countTries 18 = .ok (.putfield 34, 3) := by decide +kernel
theorem dX2_countTries_21 : decode cX2_countTries 21 = .ok (.aload_n 0, 1) := by decide +kernel
theorem dX2_countTries_22 : decode cX2_countTries 22 = .ok (.getfield 34, 3) := by decide +kernel
theorem dX2_countTries_25 : decode cX2_countTries 25 = .ok (.iconst 3, 1) := by decide +kernel
theorem dX2_countTries_26 : decode cX2_countTries 26 = .ok (.if_icmp .ge 5, 3) := by decide +kernel
theorem dX2_countTries_29 : decode cX2_countTries 29 = .ok (.iload_n 1, 1) := by decide +kernel
theorem dX2_countTries_30 : decode cX2_countTries 30 = .ok (.ireturn, 1) := by decide +kernel
theorem dX2_countTries_31 : decode cX2_countTries 31 = .ok (.aload_n 0, 1) := by decide +kernel
theorem dX2_countTries_32 : decode cX2_countTries 32 = .ok (.iconst 0, 1) := by decide +kernel
theorem dX2_countTries_33 : decode cX2_countTries 33 = .ok (.putfield 34, 3) := by decide +kernel
theorem dX2_countTries_36 : decode cX2_countTries 36 = .ok (.aload_n 0, 1) := by decide +kernel
theorem dX2_countTries_37 : decode cX2_countTries 37 = .ok (.getfield 14, 3) := by decide +kernel
theorem dX2_countTries_40 : decode cX2_countTries 40 = .ok (.getfield 149, 3) := by decide +kernel
theorem dX2_countTries_43 : decode cX2_countTries 43 = .ok (.ifCond .ne 10, 3) := by decide +kernel
theorem dX2_countTries_46 : decode cX2_countTries 46 = .ok (.aload_n 0, 1) := by decide +kernel
theorem dX2_countTries_47 : decode cX2_countTries 47 = .ok (.iconst 4, 1) := by decide +kernel
theorem dX2_countTries_48 : decode cX2_countTries 48 = .ok (.putfield 30, 3) := by decide +kernel
theorem dX2_countTries_51 : decode cX2_countTries 51 = .ok (.iconst (-1), 1) := by decide +kernel
theorem dX2_countTries_52 : decode cX2_countTries 52 = .ok (.ireturn, 1) := by decide +kernel
theorem dX2_countTries_53 : decode cX2_countTries 53 = .ok (.aload_n 0, 1) := by decide +kernel
theorem dX2_countTries_54 : decode cX2_countTries 54 = .ok (.getfield 14, 3) := by decide +kernel
theorem dX2_countTries_57 : decode cX2_countTries 57 = .ok (.iconst 0, 1) := by decide +kernel
theorem dX2_countTries_58 : decode cX2_countTries 58 = .ok (.iconst 0, 1) := by decide +kernel
theorem dX2_countTries_59 : decode cX2_countTries 59 = .ok (.invokevirtual 145, 3) := by decide +kernel
theorem dX2_countTries_62 : decode cX2_countTries 62 = .ok (.ireturn, 1) := by decide +kernel
set_option maxRecDepth 100000 in
set_option maxHeartbeats 4000000 in
theorem c_X2_countTries_l {hp : List gA} {L : gLn} {x : Int32}  (HL : gLine hp L)  : gM yX2_countTries cX2_countTries 2 ((some .int)) 2 42 [.ref 20, .int x] (hp) (0) (0) (fun v h => v = some (.int (rX2_countTries L x).1) ∧ (gLine h (rX2_countTries L x).2 ∧ gFL hp h)) := by
  refine gM_of (ls0 := [some (.ref 20), some (.int x)]) (by decide +kernel) (Nat.le_of_ble_eq_true rfl) rfl fun X C E => ?_
  refine g_aload_n (q := 1) C dX2_countTries_0 rfl rfl ?_
  refine g_aload_n (q := 2) C dX2_countTries_1 rfl rfl ?_
  refine g_getfield (v := .int L.sk) (q := 5) C fX2_68 dX2_countTries_2 rfl HL.1 rfl ?_
  refine g_if_eq (t := 17) (q := 8) C dX2_countTries_5 (by decide) rfl (fun c_5 => ?_) (fun c_5 => ?_)
  ·
    refine g_iconst (v := 0) (q := 18) C dX2_countTries_17 (by decide) rfl ?_
    refine g_putfield (q := 21) C fX2_34 dX2_countTries_18 rfl HL.1 (Nat.le_of_ble_eq_true rfl) (Or.inl rfl) rfl rfl (by intro z h; cases h) ?_
    refine gLput (k := 1) (x := 0) HL rfl fun h1 HL1 fr1 => ?_
    refine g_aload_n (q := 22) C dX2_countTries_21 rfl rfl ?_
    refine g_getfield (v := .int ((L.set 1 0).tr)) (q := 25) C fX2_34 dX2_countTries_22 rfl HL1.1 rfl ?_
    refine g_iconst (v := 3) (q := 26) C dX2_countTries_25 (by decide) rfl ?_
    refine g_icmp_ge (t := 31) (q := 29) C dX2_countTries_26 (by decide) rfl (fun c_26 => ?_) (fun c_26 => ?_)
    ·
      refine g_aload_n (q := 32) C dX2_countTries_31 rfl rfl ?_
      refine g_iconst (v := 0) (q := 33) C dX2_countTries_32 (by decide) rfl ?_
      refine g_putfield (q := 36) C fX2_34 dX2_countTries_33 rfl HL1.1 (Nat.le_of_ble_eq_true rfl) (Or.inl rfl) rfl rfl (by intro z h; cases h) ?_
      refine gLput (k := 1) (x := 0) HL1 rfl fun h2 HL2 fr2 => ?_
      refine g_aload_n (q := 37) C dX2_countTries_36 rfl rfl ?_
      refine g_getfield (v := .ref 21) (q := 40) C fX2_14 dX2_countTries_37 rfl HL2.1 rfl ?_
      refine g_getfield (v := .int (((L.set 1 0).set 1 0).rd.ask)) (q := 43) C fX2_149 dX2_countTries_40 rfl HL2.2.1.1 rfl ?_
      refine g_if_ne (t := 53) (q := 46) C dX2_countTries_43 (by decide) rfl (fun c_43 => ?_) (fun c_43 => ?_)
      ·
        refine g_aload_n (q := 54) C dX2_countTries_53 rfl rfl ?_
        refine g_getfield (v := .ref 21) (q := 57) C fX2_14 dX2_countTries_54 rfl HL2.1 rfl ?_
        refine g_iconst (v := 0) (q := 58) C dX2_countTries_57 (by decide) rfl ?_
        refine g_iconst (v := 0) (q := 59) C dX2_countTries_58 (by decide) rfl ?_
        refine g_callVix (x := (192 + 0)) (q := 62) (As := [.int 0, .int 0]) C gyX5_ask gvX5_ask t_623 (c_X5_ask_s HL2.2.1) dX2_countTries_59 rfl HL2.2.1.1 rfl rfl rfl (Nat.le_of_ble_eq_true rfl) (Nat.le_of_ble_eq_true rfl) (Nat.le_of_ble_eq_true rfl) (Nat.le_of_ble_eq_true rfl) (Nat.le_of_ble_eq_true rfl) rfl (fun h3 z3 => ?_)
        obtain ⟨HL3, fr3⟩ := gLine.rd_ HL2 z3
        have e : rX2_countTries L x = ((192 + 0), (((L.set 1 0).set 1 0).side 0 ((((L.set 1 0).set 1 0).rd.set 4 0).set 5 0))) := ((if_pos c_5).trans ((if_pos c_26).trans (if_neg c_43)))
        exact E.1 _ _ _ _ _ _ _ dX2_countTries_62 rfl rfl (Nat.le_of_ble_eq_true rfl) (Nat.le_of_ble_eq_true rfl) ⟨by rw [e], by rw [e]; exact ⟨HL3, (gFL.trans (gFL.trans fr1 fr2) fr3)⟩⟩
      ·
        refine g_aload_n (q := 47) C dX2_countTries_46 rfl rfl ?_
        refine g_iconst (v := 4) (q := 48) C dX2_countTries_47 (by decide) rfl ?_
        refine g_putfield (q := 51) C fX2_30 dX2_countTries_48 rfl HL2.1 (Nat.le_of_ble_eq_true rfl) (Or.inl rfl) rfl rfl (by intro z h; cases h) ?_
        refine gLput (k := 0) (x := 4) HL2 rfl fun h4 HL4 fr4 => ?_
        refine g_iconst (v := (-1)) (q := 52) C dX2_countTries_51 (by decide) rfl ?_
        have e : rX2_countTries L x = ((-1), (((L.set 1 0).set 1 0).set 0 4)) := ((if_pos c_5).trans ((if_pos c_26).trans (if_pos c_43)))
        exact E.1 _ _ _ _ _ _ _ dX2_countTries_52 rfl rfl (Nat.le_of_ble_eq_true rfl) (Nat.le_of_ble_eq_true rfl) ⟨by rw [e], by rw [e]; exact ⟨HL4, (gFL.trans (gFL.trans fr1 fr2) fr4)⟩⟩
    ·
      refine g_iload_n (q := 30) C dX2_countTries_29 rfl rfl ?_
      have e : rX2_countTries L x = (x, (L.set 1 0)) := ((if_pos c_5).trans (if_neg c_26))
      exact E.1 _ _ _ _ _ _ _ dX2_countTries_30 rfl rfl (Nat.le_of_ble_eq_true rfl) (Nat.le_of_ble_eq_true rfl) ⟨by rw [e], by rw [e]; exact ⟨HL1, fr1⟩⟩
  ·
    refine g_aload_n (q := 9) C dX2_countTries_8 rfl rfl ?_
    refine g_getfield (v := .int L.tr) (q := 12) C fX2_34 dX2_countTries_9 rfl HL.1 rfl ?_
    refine g_iconst (v := 1) (q := 13) C dX2_countTries_12 (by decide) rfl ?_
    refine g_iadd (q := 14) C dX2_countTries_13 rfl ?_
    refine g_goto (q := 18) C dX2_countTries_14 (by decide) ?_
    refine g_putfield (q := 21) C fX2_34 dX2_countTries_18 rfl HL.1 (Nat.le_of_ble_eq_true rfl) (Or.inl rfl) rfl rfl (by intro z h; cases h) ?_
    refine gLput (k := 1) (x := (L.tr + 1)) HL rfl fun h5 HL5 fr5 => ?_
    refine g_aload_n (q := 22) C dX2_countTries_21 rfl rfl ?_
    refine g_getfield (v := .int ((L.set 1 (L.tr + 1)).tr)) (q := 25) C fX2_34 dX2_countTries_22 rfl HL5.1 rfl ?_
    refine g_iconst (v := 3) (q := 26) C dX2_countTries_25 (by decide) rfl ?_
    refine g_icmp_ge (t := 31) (q := 29) C dX2_countTries_26 (by decide) rfl (fun c_26 => ?_) (fun c_26 => ?_)
    ·
      refine g_aload_n (q := 32) C dX2_countTries_31 rfl rfl ?_
      refine g_iconst (v := 0) (q := 33) C dX2_countTries_32 (by decide) rfl ?_
      refine g_putfield (q := 36) C fX2_34 dX2_countTries_33 rfl HL5.1 (Nat.le_of_ble_eq_true rfl) (Or.inl rfl) rfl rfl (by intro z h; cases h) ?_
      refine gLput (k := 1) (x := 0) HL5 rfl fun h6 HL6 fr6 => ?_
      refine g_aload_n (q := 37) C dX2_countTries_36 rfl rfl ?_
      refine g_getfield (v := .ref 21) (q := 40) C fX2_14 dX2_countTries_37 rfl HL6.1 rfl ?_
      refine g_getfield (v := .int (((L.set 1 (L.tr + 1)).set 1 0).rd.ask)) (q := 43) C fX2_149 dX2_countTries_40 rfl HL6.2.1.1 rfl ?_
      refine g_if_ne (t := 53) (q := 46) C dX2_countTries_43 (by decide) rfl (fun c_43 => ?_) (fun c_43 => ?_)
      ·
        refine g_aload_n (q := 54) C dX2_countTries_53 rfl rfl ?_
        refine g_getfield (v := .ref 21) (q := 57) C fX2_14 dX2_countTries_54 rfl HL6.1 rfl ?_
        refine g_iconst (v := 0) (q := 58) C dX2_countTries_57 (by decide) rfl ?_
        refine g_iconst (v := 0) (q := 59) C dX2_countTries_58 (by decide) rfl ?_
        refine g_callVix (x := (192 + 0)) (q := 62) (As := [.int 0, .int 0]) C gyX5_ask gvX5_ask t_623 (c_X5_ask_s HL6.2.1) dX2_countTries_59 rfl HL6.2.1.1 rfl rfl rfl (Nat.le_of_ble_eq_true rfl) (Nat.le_of_ble_eq_true rfl) (Nat.le_of_ble_eq_true rfl) (Nat.le_of_ble_eq_true rfl) (Nat.le_of_ble_eq_true rfl) rfl (fun h7 z7 => ?_)
        obtain ⟨HL7, fr7⟩ := gLine.rd_ HL6 z7
        have e : rX2_countTries L x = ((192 + 0), (((L.set 1 (L.tr + 1)).set 1 0).side 0 ((((L.set 1 (L.tr + 1)).set 1 0).rd.set 4 0).set 5 0))) := ((if_neg c_5).trans ((if_pos c_26).trans (if_neg c_43)))
        exact E.1 _ _ _ _ _ _ _ dX2_countTries_62 rfl rfl (Nat.le_of_ble_eq_true rfl) (Nat.le_of_ble_eq_true rfl) ⟨by rw [e], by rw [e]; exact ⟨HL7, (gFL.trans (gFL.trans fr5 fr6) fr7)⟩⟩
      ·
        refine g_aload_n (q := 47) C dX2_countTries_46 rfl rfl ?_
        refine g_iconst (v := 4) (q := 48) C dX2_countTries_47 (by decide) rfl ?_
        refine g_putfield (q := 51) C fX2_30 dX2_countTries_48 rfl HL6.1 (Nat.le_of_ble_eq_true rfl) (Or.inl rfl) rfl rfl (by intro z h; cases h) ?_
        refine gLput (k := 0) (x := 4) HL6 rfl fun h8 HL8 fr8 => ?_
        refine g_iconst (v := (-1)) (q := 52) C dX2_countTries_51 (by decide) rfl ?_
        have e : rX2_countTries L x = ((-1), (((L.set 1 (L.tr + 1)).set 1 0).set 0 4)) := ((if_neg c_5).trans ((if_pos c_26).trans (if_pos c_43)))
        exact E.1 _ _ _ _ _ _ _ dX2_countTries_52 rfl rfl (Nat.le_of_ble_eq_true rfl) (Nat.le_of_ble_eq_true rfl) ⟨by rw [e], by rw [e]; exact ⟨HL8, (gFL.trans (gFL.trans fr5 fr6) fr8)⟩⟩
    ·
      refine g_iload_n (q := 30) C dX2_countTries_29 rfl rfl ?_
      have e : rX2_countTries L x = (x, (L.set 1 (L.tr + 1))) := ((if_neg c_5).trans (if_neg c_26))
      exact E.1 _ _ _ _ _ _ _ dX2_countTries_30 rfl rfl (Nat.le_of_ble_eq_true rfl) (Nat.le_of_ble_eq_true rfl) ⟨by rw [e], by rw [e]; exact ⟨HL5, fr5⟩⟩
def rX2_readerOnAnswer (L : gLn) : Int32 × gLn := (if (rX2_isAnswerTo_r L) = 0 then ((192 + (L.set 8 1).rd.ask), (L.set 8 1)) else (if L.rd.ask = 0 then ((rX2_finish ((L.side 0 (L.rd.set 4 (-1))).side 0 ((L.side 0 (L.rd.set 4 (-1))).rd.empt)) 3).1, (rX2_finish ((L.side 0 (L.rd.set 4 (-1))).side 0 ((L.side 0 (L.rd.set 4 (-1))).rd.empt)) 3).2) else ((rX2_finish (L.side 0 (L.rd.set 4 (-1))) 2).1, (rX2_finish (L.side 0 (L.rd.set 4 (-1))) 2).2)))
theorem dX2_readerOnAnswer_0 : decode cX2_readerOnAnswer 0 = .ok (.aload_n 0, 1) := by decide +kernel
theorem dX2_readerOnAnswer_1 : decode cX2_readerOnAnswer 1 = .ok (.aload_n 0, 1) := by decide +kernel
theorem dX2_readerOnAnswer_2 : decode cX2_readerOnAnswer 2 = .ok (.getfield 14, 3) := by decide +kernel
theorem dX2_readerOnAnswer_5 : decode cX2_readerOnAnswer 5 = .ok (.invokevirtual 197, 3) := by decide +kernel
theorem dX2_readerOnAnswer_8 : decode cX2_readerOnAnswer 8 = .ok (.ifCond .ne 16, 3) := by decide +kernel
theorem dX2_readerOnAnswer_11 : decode cX2_readerOnAnswer 11 = .ok (.aload_n 0, 1) := by decide +kernel
theorem dX2_readerOnAnswer_12 : decode cX2_readerOnAnswer 12 = .ok (.iconst 1, 1) := by decide +kernel
theorem dX2_readerOnAnswer_13 : decode cX2_readerOnAnswer 13 = .ok (.putfield 68, 3) := by decide +kernel
theorem dX2_readerOnAnswer_16 : decode cX2_readerOnAnswer 16 = .ok (.aload_n 0, 1) := by decide +kernel
theorem dX2_readerOnAnswer_17 : decode cX2_readerOnAnswer 17 = .ok (.getfield 14, 3) := by decide +kernel
theorem dX2_readerOnAnswer_20 : decode cX2_readerOnAnswer 20 = .ok (.invokevirtual 188, 3) := by decide +kernel
theorem dX2_readerOnAnswer_23 : decode cX2_readerOnAnswer 23 = .ok (.ireturn, 1) := by decide +kernel
theorem dX2_readerOnAnswer_24 : decode cX2_readerOnAnswer 24 = .ok (.aload_n 0, 1) := by decide +kernel
theorem dX2_readerOnAnswer_25 : decode cX2_readerOnAnswer 25 = .ok (.getfield 14, 3) := by decide +kernel
theorem dX2_readerOnAnswer_28 : decode cX2_readerOnAnswer 28 = .ok (.getfield 149, 3) := by decide +kernel
theorem dX2_readerOnAnswer_31 : decode cX2_readerOnAnswer 31 = .ok (.ifCond .ne 7, 3) := by decide +kernel
theorem dX2_readerOnAnswer_34 : decode cX2_readerOnAnswer 34 = .ok (.iconst 1, 1) := by decide +kernel
theorem dX2_readerOnAnswer_35 : decode cX2_readerOnAnswer 35 = .ok (.goto 4, 3) := by decide +kernel
theorem dX2_readerOnAnswer_38 : decode cX2_readerOnAnswer 38 = .ok (.iconst 0, 1) := by decide +kernel
theorem dX2_readerOnAnswer_39 : decode cX2_readerOnAnswer 39 = .ok (.istore_n 1, 1) := by decide +kernel
theorem dX2_readerOnAnswer_40 : decode cX2_readerOnAnswer 40 = .ok (.aload_n 0, 1) := by decide +kernel
theorem dX2_readerOnAnswer_41 : decode cX2_readerOnAnswer 41 = .ok (.getfield 14, 3) := by decide +kernel
theorem dX2_readerOnAnswer_44 : decode cX2_readerOnAnswer 44 = .ok (.iconst (-1), 1) := by decide +kernel
theorem dX2_readerOnAnswer_45 : decode cX2_readerOnAnswer 45 = .ok (.putfield 149, 3) := by decide +kernel
theorem dX2_readerOnAnswer_48 : decode cX2_readerOnAnswer 48 = .ok (.iload_n 1, 1) := by decide +kernel
theorem dX2_readerOnAnswer_49 : decode cX2_readerOnAnswer 49 = .ok (.ifCond .eq 10, 3) := by decide +kernel
theorem dX2_readerOnAnswer_52 : decode cX2_readerOnAnswer 52 = .ok (.aload_n 0, 1) := by decide +kernel
theorem dX2_readerOnAnswer_53 : decode cX2_readerOnAnswer 53 = .ok (.getfield 14, 3) := by decide +kernel
theorem dX2_readerOnAnswer_56 : decode cX2_readerOnAnswer 56 = .ok (.invokevirtual 182, 3) := by decide +kernel
theorem dX2_readerOnAnswer_59 : decode cX2_readerOnAnswer 59 = .ok (.aload_n 0, 1) := by decide +kernel
theorem dX2_readerOnAnswer_60 : decode cX2_readerOnAnswer 60 = .ok (.iload_n 1, 1) := by decide +kernel
theorem dX2_readerOnAnswer_61 : decode cX2_readerOnAnswer 61 = .ok (.ifCond .eq 7, 3) := by decide +kernel
theorem dX2_readerOnAnswer_64 : decode cX2_readerOnAnswer 64 = .ok (.iconst 3, 1) := by decide +kernel
theorem dX2_readerOnAnswer_65 : decode cX2_readerOnAnswer 65 = .ok (.goto 4, 3) := by decide +kernel
theorem dX2_readerOnAnswer_68 : decode cX2_readerOnAnswer 68 = .ok (.iconst 2, 1) := by decide +kernel
theorem dX2_readerOnAnswer_69 : decode cX2_readerOnAnswer 69 = .ok (.invokevirtual 173, 3) := by decide +kernel
theorem dX2_readerOnAnswer_72 : decode cX2_readerOnAnswer 72 = .ok (.ireturn, 1) := by decide +kernel
set_option maxRecDepth 100000 in
set_option maxHeartbeats 4000000 in
theorem c_X2_readerOnAnswer_l {hp : List gA} {L : gLn}  (HL : gLine hp L)  : gM yX2_readerOnAnswer cX2_readerOnAnswer 2 ((some .int)) 3 62 [.ref 20] (hp) (0) (0) (fun v h => v = some (.int (rX2_readerOnAnswer L).1) ∧ (gLine h (rX2_readerOnAnswer L).2 ∧ gFL hp h)) := by
  refine gM_of (ls0 := [some (.ref 20), none]) (by decide +kernel) (Nat.le_of_ble_eq_true rfl) rfl fun X C E => ?_
  refine g_aload_n (q := 1) C dX2_readerOnAnswer_0 rfl rfl ?_
  refine g_aload_n (q := 2) C dX2_readerOnAnswer_1 rfl rfl ?_
  refine g_getfield (v := .ref 21) (q := 5) C fX2_14 dX2_readerOnAnswer_2 rfl HL.1 rfl ?_
  refine g_callVi (x := (rX2_isAnswerTo_r L)) (q := 8) (As := [.ref 21]) C gyX2_isAnswerTo gvX2_isAnswerTo t_649 (c_X2_isAnswerTo_r_l HL) dX2_readerOnAnswer_5 rfl HL.1 rfl rfl rfl (Nat.le_of_ble_eq_true rfl) (Nat.le_of_ble_eq_true rfl) (Nat.le_of_ble_eq_true rfl) (Nat.le_of_ble_eq_true rfl) (Nat.le_of_ble_eq_true rfl) rfl ?_
  refine g_if_ne (t := 24) (q := 11) C dX2_readerOnAnswer_8 (by decide) rfl (fun c_8 => ?_) (fun c_8 => ?_)
  ·
    refine g_aload_n (q := 25) C dX2_readerOnAnswer_24 rfl rfl ?_
    refine g_getfield (v := .ref 21) (q := 28) C fX2_14 dX2_readerOnAnswer_25 rfl HL.1 rfl ?_
    refine g_getfield (v := .int L.rd.ask) (q := 31) C fX2_149 dX2_readerOnAnswer_28 rfl HL.2.1.1 rfl ?_
    refine g_if_ne (t := 38) (q := 34) C dX2_readerOnAnswer_31 (by decide) rfl (fun c_31 => ?_) (fun c_31 => ?_)
    ·
      refine g_iconst (v := 0) (q := 39) C dX2_readerOnAnswer_38 (by decide) rfl ?_
      refine g_istore_n (q := 40) C dX2_readerOnAnswer_39 (Nat.le_of_ble_eq_true rfl) (by simp only [gset]; rfl) rfl ?_
      refine g_aload_n (q := 41) C dX2_readerOnAnswer_40 rfl rfl ?_
      refine g_getfield (v := .ref 21) (q := 44) C fX2_14 dX2_readerOnAnswer_41 rfl HL.1 rfl ?_
      refine g_iconst (v := (-1)) (q := 45) C dX2_readerOnAnswer_44 (by decide) rfl ?_
      refine g_putfield (q := 48) C fX2_149 dX2_readerOnAnswer_45 rfl HL.2.1.1 (Nat.le_of_ble_eq_true rfl) (Or.inl rfl) rfl rfl (by intro z h; cases h) ?_
      refine gLput_rd (k := 4) (x := (-1)) HL rfl fun h1 HL1 fr1 => ?_
      refine g_iload_n (q := 49) C dX2_readerOnAnswer_48 rfl rfl ?_
      refine g_if_eq_t (t := 59) C dX2_readerOnAnswer_49 (by decide) (by decide) ?_
      refine g_aload_n (q := 60) C dX2_readerOnAnswer_59 rfl rfl ?_
      refine g_iload_n (q := 61) C dX2_readerOnAnswer_60 rfl rfl ?_
      refine g_if_eq_t (t := 68) C dX2_readerOnAnswer_61 (by decide) (by decide) ?_
      refine g_iconst (v := 2) (q := 69) C dX2_readerOnAnswer_68 (by decide) rfl ?_
      refine g_callVix (x := (rX2_finish (L.side 0 (L.rd.set 4 (-1))) 2).1) (q := 72) (As := [.int 2]) C gyX2_finish gvX2_finish t_654 (c_X2_finish_l HL1) dX2_readerOnAnswer_69 rfl HL1.1 rfl rfl rfl (Nat.le_of_ble_eq_true rfl) (Nat.le_of_ble_eq_true rfl) (Nat.le_of_ble_eq_true rfl) (Nat.le_of_ble_eq_true rfl) (Nat.le_of_ble_eq_true rfl) rfl (fun h2 z2 => ?_)
      obtain ⟨HL2, fr2⟩ := z2
      have e : rX2_readerOnAnswer L = ((rX2_finish (L.side 0 (L.rd.set 4 (-1))) 2).1, (rX2_finish (L.side 0 (L.rd.set 4 (-1))) 2).2) := ((if_neg c_8).trans (if_neg c_31))
      exact E.1 _ _ _ _ _ _ _ dX2_readerOnAnswer_72 rfl rfl (Nat.le_of_ble_eq_true rfl) (Nat.le_of_ble_eq_true rfl) ⟨by rw [e], by rw [e]; exact ⟨HL2, (gFL.trans fr1 fr2)⟩⟩
    ·
      refine g_iconst (v := 1) (q := 35) C dX2_readerOnAnswer_34 (by decide) rfl ?_
      refine g_goto (q := 39) C dX2_readerOnAnswer_35 (by decide) ?_
      refine g_istore_n (q := 40) C dX2_readerOnAnswer_39 (Nat.le_of_ble_eq_true rfl) (by simp only [gset]; rfl) rfl ?_
      refine g_aload_n (q := 41) C dX2_readerOnAnswer_40 rfl rfl ?_
      refine g_getfield (v := .ref 21) (q := 44) C fX2_14 dX2_readerOnAnswer_41 rfl HL.1 rfl ?_
      refine g_iconst (v := (-1)) (q := 45) C dX2_readerOnAnswer_44 (by decide) rfl ?_
      refine g_putfield (q := 48) C fX2_149 dX2_readerOnAnswer_45 rfl HL.2.1.1 (Nat.le_of_ble_eq_true rfl) (Or.inl rfl) rfl rfl (by intro z h; cases h) ?_
      refine gLput_rd (k := 4) (x := (-1)) HL rfl fun h3 HL3 fr3 => ?_
      refine g_iload_n (q := 49) C dX2_readerOnAnswer_48 rfl rfl ?_
      refine g_if_eq_f (t := 59) (q := 52) C dX2_readerOnAnswer_49 (by decide) rfl (by decide) ?_
      refine g_aload_n (q := 53) C dX2_readerOnAnswer_52 rfl rfl ?_
      refine g_getfield (v := .ref 21) (q := 56) C fX2_14 dX2_readerOnAnswer_53 rfl HL3.1 rfl ?_
      refine g_callVvp (q := 59) (As := []) C gyX5_emptyAll gvX5_emptyAll t_653 (c_X5_emptyAll_s HL3.2.1) dX2_readerOnAnswer_56 rfl HL3.2.1.1 rfl rfl rfl (Nat.le_of_ble_eq_true rfl) (Nat.le_of_ble_eq_true rfl) (Nat.le_of_ble_eq_true rfl) (Nat.le_of_ble_eq_true rfl) (Nat.le_of_ble_eq_true rfl) rfl (fun h4 z4 => ?_)
      obtain ⟨HL4, fr4⟩ := gLine.rd_ HL3 z4
      refine g_aload_n (q := 60) C dX2_readerOnAnswer_59 rfl rfl ?_
      refine g_iload_n (q := 61) C dX2_readerOnAnswer_60 rfl rfl ?_
      refine g_if_eq_f (t := 68) (q := 64) C dX2_readerOnAnswer_61 (by decide) rfl (by decide) ?_
      refine g_iconst (v := 3) (q := 65) C dX2_readerOnAnswer_64 (by decide) rfl ?_
      refine g_goto (q := 69) C dX2_readerOnAnswer_65 (by decide) ?_
      refine g_callVix (x := (rX2_finish ((L.side 0 (L.rd.set 4 (-1))).side 0 ((L.side 0 (L.rd.set 4 (-1))).rd.empt)) 3).1) (q := 72) (As := [.int 3]) C gyX2_finish gvX2_finish t_654 (c_X2_finish_l HL4) dX2_readerOnAnswer_69 rfl HL4.1 rfl rfl rfl (Nat.le_of_ble_eq_true rfl) (Nat.le_of_ble_eq_true rfl) (Nat.le_of_ble_eq_true rfl) (Nat.le_of_ble_eq_true rfl) (Nat.le_of_ble_eq_true rfl) rfl (fun h5 z5 => ?_)
      obtain ⟨HL5, fr5⟩ := z5
      have e : rX2_readerOnAnswer L = ((rX2_finish ((L.side 0 (L.rd.set 4 (-1))).side 0 ((L.side 0 (L.rd.set 4 (-1))).rd.empt)) 3).1, (rX2_finish ((L.side 0 (L.rd.set 4 (-1))).side 0 ((L.side 0 (L.rd.set 4 (-1))).rd.empt)) 3).2) := ((if_neg c_8).trans (if_pos c_31))
      exact E.1 _ _ _ _ _ _ _ dX2_readerOnAnswer_72 rfl rfl (Nat.le_of_ble_eq_true rfl) (Nat.le_of_ble_eq_true rfl) ⟨by rw [e], by rw [e]; exact ⟨HL5, (gFL.trans (gFL.trans fr3 fr4) fr5)⟩⟩
  ·
    refine g_aload_n (q := 12) C dX2_readerOnAnswer_11 rfl rfl ?_
    refine g_iconst (v := 1) (q := 13) C dX2_readerOnAnswer_12 (by decide) rfl ?_
    refine g_putfield (q := 16) C fX2_68 dX2_readerOnAnswer_13 rfl HL.1 (Nat.le_of_ble_eq_true rfl) (Or.inl rfl) rfl rfl (by intro z h; cases h) ?_
    refine gLput (k := 8) (x := 1) HL rfl fun h6 HL6 fr6 => ?_
    refine g_aload_n (q := 17) C dX2_readerOnAnswer_16 rfl rfl ?_
    refine g_getfield (v := .ref 21) (q := 20) C fX2_14 dX2_readerOnAnswer_17 rfl HL6.1 rfl ?_
    refine g_callVi (x := (192 + (L.set 8 1).rd.ask)) (q := 23) (As := []) C gyX5_requestKind gvX5_requestKind t_639 (c_X5_requestKind_s HL6.2.1) dX2_readerOnAnswer_20 rfl HL6.2.1.1 rfl rfl rfl (Nat.le_of_ble_eq_true rfl) (Nat.le_of_ble_eq_true rfl) (Nat.le_of_ble_eq_true rfl) (Nat.le_of_ble_eq_true rfl) (Nat.le_of_ble_eq_true rfl) rfl ?_
    have e : rX2_readerOnAnswer L = ((192 + (L.set 8 1).rd.ask), (L.set 8 1)) := (if_pos c_8)
    exact E.1 _ _ _ _ _ _ _ dX2_readerOnAnswer_23 rfl rfl (Nat.le_of_ble_eq_true rfl) (Nat.le_of_ble_eq_true rfl) ⟨by rw [e], by rw [e]; exact ⟨HL6, fr6⟩⟩
def rX2_putFirstByte (L : gLn) : Int32 × gLn := ((-2), ((L.side 1 (L.cd.row 0 [])).side 1 ((L.side 1 (L.cd.row 0 [])).cd.row 0 (((L.side 1 (L.cd.row 0 [])).cd.out ++ [(gat (L.side 1 (L.cd.row 0 [])).cd.got 0)]).take 60))))
theorem dX2_putFirstByte_0 : decode cX2_putFirstByte 0 = .ok (.aload_n 0, 1) := by decide +kernel
theorem dX2_putFirstByte_1 : decode cX2_putFirstByte 1 = .ok (.getfield 20, 3) := by decide +kernel
theorem dX2_putFirstByte_4 : decode cX2_putFirstByte 4 = .ok (.getfield 102, 3) := by decide +kernel
theorem dX2_putFirstByte_7 : decode cX2_putFirstByte 7 = .ok (.iconst 0, 1) := by decide +kernel
theorem dX2_putFirstByte_8 : decode cX2_putFirstByte 8 = .ok (.invokevirtual 89, 3) := by decide +kernel
theorem dX2_putFirstByte_11 : decode cX2_putFirstByte 11 = .ok (.aload_n 0, 1) := by decide +kernel
theorem dX2_putFirstByte_12 : decode cX2_putFirstByte 12 = .ok (.getfield 20, 3) := by decide +kernel
theorem dX2_putFirstByte_15 : decode cX2_putFirstByte 15 = .ok (.getfield 102, 3) := by decide +kernel
theorem dX2_putFirstByte_18 : decode cX2_putFirstByte 18 = .ok (.aload_n 0, 1) := by decide +kernel
theorem dX2_putFirstByte_19 : decode cX2_putFirstByte 19 = .ok (.getfield 20, 3) := by decide +kernel
theorem dX2_putFirstByte_22 : decode cX2_putFirstByte 22 = .ok (.getfield 235, 3) := by decide +kernel
theorem dX2_putFirstByte_25 : decode cX2_putFirstByte 25 = .ok (.iconst 0, 1) := by decide +kernel
theorem dX2_putFirstByte_26 : decode cX2_putFirstByte 26 = .ok (.invokevirtual 156, 3) := by decide +kernel
theorem dX2_putFirstByte_29 : decode cX2_putFirstByte 29 = .ok (.invokevirtual 241, 3) := by decide +kernel
theorem dX2_putFirstByte_32 : decode cX2_putFirstByte 32 = .ok (.bipush (-2), 2) := by decide +kernel
theorem dX2_putFirstByte_34 : decode cX2_putFirstByte 34 = .ok (.ireturn, 1) := by decide +kernel
set_option maxRecDepth 100000 in
set_option maxHeartbeats 4000000 in
theorem c_X2_putFirstByte_l {hp : List gA} {L : gLn}  (HL : gLine hp L)  : gM yX2_putFirstByte cX2_putFirstByte 1 ((some .int)) 3 103 [.ref 20] (hp) (0) (0) (fun v h => v = some (.int (rX2_putFirstByte L).1) ∧ (gLine h (rX2_putFirstByte L).2 ∧ gFL hp h)) := by
  refine gM_of (ls0 := [some (.ref 20)]) (by decide +kernel) (Nat.le_of_ble_eq_true rfl) rfl fun X C E => ?_
  refine g_aload_n (q := 1) C dX2_putFirstByte_0 rfl rfl ?_
  refine g_getfield (v := .ref 28) (q := 4) C fX2_20 dX2_putFirstByte_1 rfl HL.1 rfl ?_
  refine g_getfieldW (v := .ref 29) (q := 7) C fX2_102 dX2_putFirstByte_4 rfl HL.2.2.1.1 rfl ?_
  refine g_iconst (v := 0) (q := 8) C dX2_putFirstByte_7 (by decide) rfl ?_
  refine g_callVvp (q := 11) (As := [.int 0]) C gyX4_keep gvX4_keep t_507 (c_X4_keep0 HL.2.2.1.2.1) dX2_putFirstByte_8 rfl (gRw.obj HL.2.2.1.2.1) rfl rfl rfl (Nat.le_of_ble_eq_true rfl) (Nat.le_of_ble_eq_true rfl) (Nat.le_of_ble_eq_true rfl) (Nat.le_of_ble_eq_true rfl) (Nat.le_of_ble_eq_true rfl) rfl (fun h1 z1 => ?_)
  obtain ⟨HL1, fr1⟩ := gLine.cd_out HL z1
  refine g_aload_n (q := 12) C dX2_putFirstByte_11 rfl rfl ?_
  refine g_getfield (v := .ref 28) (q := 15) C fX2_20 dX2_putFirstByte_12 rfl HL1.1 rfl ?_
  refine g_getfieldW (v := .ref 29) (q := 18) C fX2_102 dX2_putFirstByte_15 rfl HL1.2.2.1.1 rfl ?_
  refine g_aload_n (q := 19) C dX2_putFirstByte_18 rfl rfl ?_
  refine g_getfield (v := .ref 28) (q := 22) C fX2_20 dX2_putFirstByte_19 rfl HL1.1 rfl ?_
  refine g_getfieldW (v := .ref 31) (q := 25) C fX2_235 dX2_putFirstByte_22 rfl HL1.2.2.1.1 rfl ?_
  refine g_iconst (v := 0) (q := 26) C dX2_putFirstByte_25 (by decide) rfl ?_
  refine g_callVi (x := (gat (L.side 1 (L.cd.row 0 [])).cd.got 0)) (q := 29) (As := [.int 0]) C gyX4_at gvX4_at t_644 (c_X4_at_w HL1.2.2.1.2.2.1) dX2_putFirstByte_26 rfl (gRw.obj HL1.2.2.1.2.2.1) rfl rfl rfl (Nat.le_of_ble_eq_true rfl) (Nat.le_of_ble_eq_true rfl) (Nat.le_of_ble_eq_true rfl) (Nat.le_of_ble_eq_true rfl) (Nat.le_of_ble_eq_true rfl) rfl ?_
  refine g_callVvp (q := 32) (As := [.int ((gat (L.side 1 (L.cd.row 0 [])).cd.got 0))]) C gyX4_add gvX4_add t_733 (c_X4_add_a HL1.2.2.1.2.1) dX2_putFirstByte_29 rfl (gRw.obj HL1.2.2.1.2.1) rfl rfl rfl (Nat.le_of_ble_eq_true rfl) (Nat.le_of_ble_eq_true rfl) (Nat.le_of_ble_eq_true rfl) (Nat.le_of_ble_eq_true rfl) (Nat.le_of_ble_eq_true rfl) rfl (fun h2 z2 => ?_)
  obtain ⟨HL2, fr2⟩ := gLine.cd_out HL1 z2
  refine g_bipush (v := (-2)) (q := 34) C dX2_putFirstByte_32 (by decide) rfl ?_
  have e : rX2_putFirstByte L = ((-2), ((L.side 1 (L.cd.row 0 [])).side 1 ((L.side 1 (L.cd.row 0 [])).cd.row 0 (((L.side 1 (L.cd.row 0 [])).cd.out ++ [(gat (L.side 1 (L.cd.row 0 [])).cd.got 0)]).take 60)))) := rfl
  exact E.1 _ _ _ _ _ _ _ dX2_putFirstByte_34 rfl rfl (Nat.le_of_ble_eq_true rfl) (Nat.le_of_ble_eq_true rfl) ⟨by rw [e], by rw [e]; exact ⟨HL2, (gFL.trans fr1 fr2)⟩⟩
def rX2_onI_r (L : gLn) (x : Int32) : Int32 × gLn := (if (x >>> (6 &&& 31)) = L.rd.wa then (if L.rd.hasMore = 0 then (if (x &&& 32) = 0 then ((rX2_finish (((L.side 0 L.rd.pass).side 0 ((L.side 0 L.rd.pass).rd.take (L.side 0 L.rd.pass).ca)).side 0 (((L.side 0 L.rd.pass).side 0 ((L.side 0 L.rd.pass).rd.take (L.side 0 L.rd.pass).ca)).rd.whole)) 2).1, (rX2_finish (((L.side 0 L.rd.pass).side 0 ((L.side 0 L.rd.pass).rd.take (L.side 0 L.rd.pass).ca)).side 0 (((L.side 0 L.rd.pass).side 0 ((L.side 0 L.rd.pass).rd.take (L.side 0 L.rd.pass).ca)).rd.whole)) 2).2) else ((128 + 16 * ((L.side 0 L.rd.pass).side 0 ((L.side 0 L.rd.pass).rd.take (L.side 0 L.rd.pass).ca)).rd.wa + 0), ((L.side 0 L.rd.pass).side 0 ((L.side 0 L.rd.pass).rd.take (L.side 0 L.rd.pass).ca)))) else ((rX2_refuse_r L).1, (rX2_refuse_r L).2)) else ((rX2_refuse_r L).1, (rX2_refuse_r L).2))
theorem dX2_onI_0 : decode cX2_onI 0 = .ok (.iload_n 2, 1) := by decide +kernel
theorem dX2_onI_1 : decode cX2_onI 1 = .ok (.bipush 6, 2) := by decide +kernel
theorem dX2_onI_3 : decode cX2_onI 3 = .ok (.ishr, 1) := by decide +kernel
theorem dX2_onI_4 : decode cX2_onI 4 = .ok (.aload_n 1, 1) := by decide +kernel
theorem dX2_onI_5 : decode cX2_onI 5 = .ok (.getfield 204, 3) := by decide +kernel
theorem dX2_onI_8 : decode cX2_onI 8 = .ok (.if_icmp .ne 10, 3) := by decide +kernel
theorem dX2_onI_11 : decode cX2_onI 11 = .ok (.aload_n 1, 1) := by decide +kernel
theorem dX2_onI_12 : decode cX2_onI 12 = .ok (.invokevirtual 207, 3) := by decide +kernel
theorem dX2_onI_15 : decode cX2_onI 15 = .ok (.ifCond .eq 9, 3) := by decide +kernel
theorem dX2_onI_18 : decode cX2_onI 18 = .ok (.aload_n 0, 1) := by decide +kernel
theorem dX2_onI_19 : decode cX2_onI 19 = .ok (.aload_n 1, 1) := by decide +kernel
theorem dX2_onI_20 : decode cX2_onI 20 = .ok (.invokevirtual 211, 3) := by decide +kernel
theorem dX2_onI_23 : decode cX2_onI 23 = .ok (.ireturn, 1) := by decide +kernel
theorem dX2_onI_24 : decode cX2_onI 24 = .ok (.aload_n 1, 1) := by decide +kernel
theorem dX2_onI_25 : decode cX2_onI 25 = .ok (.invokevirtual 214, 3) := by decide +kernel
theorem dX2_onI_28 : decode cX2_onI 28 = .ok (.aload_n 1, 1) := by decide +kernel
theorem dX2_onI_29 : decode cX2_onI 29 = .ok (.aload_n 0, 1) := by decide +kernel
theorem dX2_onI_30 : decode cX2_onI 30 = .ok (.getfield 55, 3) := by decide +kernel
theorem dX2_onI_33 : decode cX2_onI 33 = .ok (.invokevirtual 217, 3) := by decide +kernel
theorem dX2_onI_36 : decode cX2_onI 36 = .ok (.iload_n 2, 1) := by decide +kernel
theorem dX2_onI_37 : decode cX2_onI 37 = .ok (.bipush 32, 2) := by decide +kernel
theorem dX2_onI_39 : decode cX2_onI 39 = .ok (.iand, 1) := by decide +kernel
theorem dX2_onI_40 : decode cX2_onI 40 = .ok (.ifCond .eq 9, 3) := by decide +kernel
theorem dX2_onI_43 : decode cX2_onI 43 = .ok (.aload_n 1, 1) := by decide +kernel
theorem dX2_onI_44 : decode cX2_onI 44 = .ok (.iconst 0, 1) := by decide +kernel
theorem dX2_onI_45 : decode cX2_onI 45 = .ok (.invokevirtual 191, 3) := by decide +kernel
theorem dX2_onI_48 : decode cX2_onI 48 = .ok (.ireturn, 1) := by decide +kernel
theorem dX2_onI_49 : decode cX2_onI 49 = .ok (.aload_n 1, 1) := by decide +kernel
theorem dX2_onI_50 : decode cX2_onI 50 = .ok (.invokevirtual 220, 3) := by decide +kernel
theorem dX2_onI_53 : decode cX2_onI 53 = .ok (.aload_n 1, 1) := by decide +kernel
theorem dX2_onI_54 : decode cX2_onI 54 = .ok (.aload_n 0, 1) := by decide +kernel
theorem dX2_onI_55 : decode cX2_onI 55 = .ok (.getfield 14, 3) := by decide +kernel
theorem dX2_onI_58 : decode cX2_onI 58 = .ok (.if_acmp .ne 11, 3) := by decide +kernel
theorem dX2_onI_61 : decode cX2_onI 61 = .ok (.aload_n 0, 1) := by decide +kernel
theorem dX2_onI_62 : decode cX2_onI 62 = .ok (.iconst 2, 1) := by decide +kernel
theorem dX2_onI_63 : decode cX2_onI 63 = .ok (.invokevirtual 173, 3) := by decide +kernel
theorem dX2_onI_66 : decode cX2_onI 66 = .ok (.goto 5, 3) := by decide +kernel
theorem dX2_onI_71 : decode cX2_onI 71 = .ok (.ireturn, 1) := by decide +kernel
set_option maxRecDepth 100000 in
set_option maxHeartbeats 4000000 in
theorem c_X2_onI_r_l {hp : List gA} {L : gLn} {x : Int32}  (HL : gLine hp L) (hca : 4 ≤ L.ca.length) : gM yX2_onI cX2_onI 3 ((some .int)) 4 125 [.ref 20, .ref 21, .int x] (hp) (0) (0) (fun v h => v = some (.int (rX2_onI_r L x).1) ∧ (gLine h (rX2_onI_r L x).2 ∧ gFL hp h)) := by
  refine gM_of (ls0 := [some (.ref 20), some (.ref 21), some (.int x)]) (by decide +kernel) (Nat.le_of_ble_eq_true rfl) rfl fun X C E => ?_
  refine g_iload_n (q := 1) C dX2_onI_0 rfl rfl ?_
  refine g_bipush (v := 6) (q := 3) C dX2_onI_1 (by decide) rfl ?_
  refine g_ishr (q := 4) C dX2_onI_3 rfl ?_
  refine g_aload_n (q := 5) C dX2_onI_4 rfl rfl ?_
  refine g_getfield (v := .int L.rd.wa) (q := 8) C fX2_204 dX2_onI_5 rfl HL.2.1.1 rfl ?_
  refine g_icmp_ne (t := 18) (q := 11) C dX2_onI_8 (by decide) rfl (fun c_8 => ?_) (fun c_8 => ?_)
  ·
    refine g_aload_n (q := 19) C dX2_onI_18 rfl rfl ?_
    refine g_aload_n (q := 20) C dX2_onI_19 rfl rfl ?_
    refine g_callVix (x := (rX2_refuse_r L).1) (q := 23) (As := [.ref 21]) C gyX2_refuse gvX2_refuse t_670 (c_X2_refuse_r_l HL) dX2_onI_20 rfl HL.1 rfl rfl rfl (Nat.le_of_ble_eq_true rfl) (Nat.le_of_ble_eq_true rfl) (Nat.le_of_ble_eq_true rfl) (Nat.le_of_ble_eq_true rfl) (Nat.le_of_ble_eq_true rfl) rfl (fun h1 z1 => ?_)
    obtain ⟨HL1, fr1⟩ := z1
    have e : rX2_onI_r L x = ((rX2_refuse_r L).1, (rX2_refuse_r L).2) := (if_neg c_8)
    exact E.1 _ _ _ _ _ _ _ dX2_onI_23 rfl rfl (Nat.le_of_ble_eq_true rfl) (Nat.le_of_ble_eq_true rfl) ⟨by rw [e], by rw [e]; exact ⟨HL1, fr1⟩⟩
  ·
    refine g_aload_n (q := 12) C dX2_onI_11 rfl rfl ?_
    refine g_callVi (x := L.rd.hasMore) (q := 15) (As := []) C gyX5_pendingHasMore gvX5_pendingHasMore t_678 (c_X5_pendingHasMore_s HL.2.1) dX2_onI_12 rfl HL.2.1.1 rfl rfl rfl (Nat.le_of_ble_eq_true rfl) (Nat.le_of_ble_eq_true rfl) (Nat.le_of_ble_eq_true rfl) (Nat.le_of_ble_eq_true rfl) (Nat.le_of_ble_eq_true rfl) rfl ?_
    refine g_if_eq (t := 24) (q := 18) C dX2_onI_15 (by decide) rfl (fun c_15 => ?_) (fun c_15 => ?_)
    ·
      refine g_aload_n (q := 25) C dX2_onI_24 rfl rfl ?_
      refine g_callVvp (q := 28) (As := []) C gyX5_passPending gvX5_passPending t_682 (c_X5_passPending_s HL.2.1) dX2_onI_25 rfl HL.2.1.1 rfl rfl rfl (Nat.le_of_ble_eq_true rfl) (Nat.le_of_ble_eq_true rfl) (Nat.le_of_ble_eq_true rfl) (Nat.le_of_ble_eq_true rfl) (Nat.le_of_ble_eq_true rfl) rfl (fun h2 z2 => ?_)
      obtain ⟨HL2, fr2⟩ := gLine.rd_ HL z2
      refine g_aload_n (q := 29) C dX2_onI_28 rfl rfl ?_
      refine g_aload_n (q := 30) C dX2_onI_29 rfl rfl ?_
      refine g_getfield (v := .ref 41) (q := 33) C fX2_55 dX2_onI_30 rfl HL2.1 rfl ?_
      refine g_callVvp (q := 36) (As := [.ref 41]) C gyX5_takeInf gvX5_takeInf t_683 (c_X5_takeInf_s HL2.2.1 HL2.2.2.2.2 (by decide) (by decide) hca) dX2_onI_33 rfl HL2.2.1.1 rfl rfl rfl (Nat.le_of_ble_eq_true rfl) (Nat.le_of_ble_eq_true rfl) (Nat.le_of_ble_eq_true rfl) (Nat.le_of_ble_eq_true rfl) (Nat.le_of_ble_eq_true rfl) rfl (fun h3 z3 => ?_)
      obtain ⟨HL3, fr3⟩ := gLine.rd_ HL2 z3
      refine g_iload_n (q := 37) C dX2_onI_36 rfl rfl ?_
      refine g_bipush (v := 32) (q := 39) C dX2_onI_37 (by decide) rfl ?_
      refine g_iand (q := 40) C dX2_onI_39 rfl ?_
      refine g_if_eq (t := 49) (q := 43) C dX2_onI_40 (by decide) rfl (fun c_40 => ?_) (fun c_40 => ?_)
      ·
        refine g_aload_n (q := 50) C dX2_onI_49 rfl rfl ?_
        refine g_callVvp (q := 53) (As := []) C gyX5_takeWhole gvX5_takeWhole t_690 (c_X5_takeWhole_s HL3.2.1) dX2_onI_50 rfl HL3.2.1.1 rfl rfl rfl (Nat.le_of_ble_eq_true rfl) (Nat.le_of_ble_eq_true rfl) (Nat.le_of_ble_eq_true rfl) (Nat.le_of_ble_eq_true rfl) (Nat.le_of_ble_eq_true rfl) rfl (fun h4 z4 => ?_)
        obtain ⟨HL4, fr4⟩ := gLine.rd_ HL3 z4
        refine g_aload_n (q := 54) C dX2_onI_53 rfl rfl ?_
        refine g_aload_n (q := 55) C dX2_onI_54 rfl rfl ?_
        refine g_getfield (v := .ref 21) (q := 58) C fX2_14 dX2_onI_55 rfl HL4.1 rfl ?_
        refine g_acmp_ne (t := 69) (q := 61) C dX2_onI_58 (by decide) rfl (fun c_58 => ?_) (fun c_58 => ?_)
        · exact absurd rfl c_58
        ·
          refine g_aload_n (q := 62) C dX2_onI_61 rfl rfl ?_
          refine g_iconst (v := 2) (q := 63) C dX2_onI_62 (by decide) rfl ?_
          refine g_callVix (x := (rX2_finish (((L.side 0 L.rd.pass).side 0 ((L.side 0 L.rd.pass).rd.take (L.side 0 L.rd.pass).ca)).side 0 (((L.side 0 L.rd.pass).side 0 ((L.side 0 L.rd.pass).rd.take (L.side 0 L.rd.pass).ca)).rd.whole)) 2).1) (q := 66) (As := [.int 2]) C gyX2_finish gvX2_finish t_654 (c_X2_finish_l HL4) dX2_onI_63 rfl HL4.1 rfl rfl rfl (Nat.le_of_ble_eq_true rfl) (Nat.le_of_ble_eq_true rfl) (Nat.le_of_ble_eq_true rfl) (Nat.le_of_ble_eq_true rfl) (Nat.le_of_ble_eq_true rfl) rfl (fun h5 z5 => ?_)
          obtain ⟨HL5, fr5⟩ := z5
          refine g_goto (q := 71) C dX2_onI_66 (by decide) ?_
          have e : rX2_onI_r L x = ((rX2_finish (((L.side 0 L.rd.pass).side 0 ((L.side 0 L.rd.pass).rd.take (L.side 0 L.rd.pass).ca)).side 0 (((L.side 0 L.rd.pass).side 0 ((L.side 0 L.rd.pass).rd.take (L.side 0 L.rd.pass).ca)).rd.whole)) 2).1, (rX2_finish (((L.side 0 L.rd.pass).side 0 ((L.side 0 L.rd.pass).rd.take (L.side 0 L.rd.pass).ca)).side 0 (((L.side 0 L.rd.pass).side 0 ((L.side 0 L.rd.pass).rd.take (L.side 0 L.rd.pass).ca)).rd.whole)) 2).2) := ((if_pos c_8).trans ((if_pos c_15).trans (if_pos c_40)))
          exact E.1 _ _ _ _ _ _ _ dX2_onI_71 rfl rfl (Nat.le_of_ble_eq_true rfl) (Nat.le_of_ble_eq_true rfl) ⟨by rw [e], by rw [e]; exact ⟨HL5, (gFL.trans (gFL.trans (gFL.trans fr2 fr3) fr4) fr5)⟩⟩
      ·
        refine g_aload_n (q := 44) C dX2_onI_43 rfl rfl ?_
        refine g_iconst (v := 0) (q := 45) C dX2_onI_44 (by decide) rfl ?_
        refine g_callVi (x := (128 + 16 * ((L.side 0 L.rd.pass).side 0 ((L.side 0 L.rd.pass).rd.take (L.side 0 L.rd.pass).ca)).rd.wa + 0)) (q := 48) (As := [.int 0]) C gyX5_receipt gvX5_receipt t_640 (c_X5_receipt_s HL3.2.1) dX2_onI_45 rfl HL3.2.1.1 rfl rfl rfl (Nat.le_of_ble_eq_true rfl) (Nat.le_of_ble_eq_true rfl) (Nat.le_of_ble_eq_true rfl) (Nat.le_of_ble_eq_true rfl) (Nat.le_of_ble_eq_true rfl) rfl ?_
        have e : rX2_onI_r L x = ((128 + 16 * ((L.side 0 L.rd.pass).side 0 ((L.side 0 L.rd.pass).rd.take (L.side 0 L.rd.pass).ca)).rd.wa + 0), ((L.side 0 L.rd.pass).side 0 ((L.side 0 L.rd.pass).rd.take (L.side 0 L.rd.pass).ca))) := ((if_pos c_8).trans ((if_pos c_15).trans (if_neg c_40)))
        exact E.1 _ _ _ _ _ _ _ dX2_onI_48 rfl rfl (Nat.le_of_ble_eq_true rfl) (Nat.le_of_ble_eq_true rfl) ⟨by rw [e], by rw [e]; exact ⟨HL3, (gFL.trans fr2 fr3)⟩⟩
    ·
      refine g_aload_n (q := 19) C dX2_onI_18 rfl rfl ?_
      refine g_aload_n (q := 20) C dX2_onI_19 rfl rfl ?_
      refine g_callVix (x := (rX2_refuse_r L).1) (q := 23) (As := [.ref 21]) C gyX2_refuse gvX2_refuse t_670 (c_X2_refuse_r_l HL) dX2_onI_20 rfl HL.1 rfl rfl rfl (Nat.le_of_ble_eq_true rfl) (Nat.le_of_ble_eq_true rfl) (Nat.le_of_ble_eq_true rfl) (Nat.le_of_ble_eq_true rfl) (Nat.le_of_ble_eq_true rfl) rfl (fun h6 z6 => ?_)
      obtain ⟨HL6, fr6⟩ := z6
      have e : rX2_onI_r L x = ((rX2_refuse_r L).1, (rX2_refuse_r L).2) := ((if_pos c_8).trans (if_neg c_15))
      exact E.1 _ _ _ _ _ _ _ dX2_onI_23 rfl rfl (Nat.le_of_ble_eq_true rfl) (Nat.le_of_ble_eq_true rfl) ⟨by rw [e], by rw [e]; exact ⟨HL6, fr6⟩⟩
def rX2_onReceipt_r (L : gLn) (x : Int32) : Int32 × gLn := (if L.rd.has = 0 then ((128 + 16 * L.rd.wa + 0), L) else (if ((x >>> (4 &&& 31)) &&& 1) = L.rd.nx then ((L.set 8 1).rd.pk, (L.set 8 1)) else (if L.rd.hasMore = 0 then ((128 + 16 * (L.side 0 L.rd.pass).rd.wa + 0), (L.side 0 L.rd.pass)) else ((-3), (L.side 0 L.rd.pass)))))
theorem dX2_onReceipt_0 : decode cX2_onReceipt 0 = .ok (.aload_n 1, 1) := by decide +kernel
theorem dX2_onReceipt_1 : decode cX2_onReceipt 1 = .ok (.invokevirtual 223, 3) := by decide +kernel
theorem dX2_onReceipt_4 : decode cX2_onReceipt 4 = .ok (.ifCond .ne 9, 3) := by decide +kernel
theorem dX2_onReceipt_7 : decode cX2_onReceipt 7 = .ok (.aload_n 1, 1) := by decide +kernel
theorem dX2_onReceipt_8 : decode cX2_onReceipt 8 = .ok (.iconst 0, 1) := by decide +kernel
theorem dX2_onReceipt_9 : decode cX2_onReceipt 9 = .ok (.invokevirtual 191, 3) := by decide +kernel
theorem dX2_onReceipt_12 : decode cX2_onReceipt 12 = .ok (.ireturn, 1) := by decide +kernel
theorem dX2_onReceipt_13 : decode cX2_onReceipt 13 = .ok (.iload_n 2, 1) := by decide +kernel
theorem dX2_onReceipt_14 : decode cX2_onReceipt 14 = .ok (.iconst 4, 1) := by decide +kernel
theorem dX2_onReceipt_15 : decode cX2_onReceipt 15 = .ok (.ishr, 1) := by decide +kernel
theorem dX2_onReceipt_16 : decode cX2_onReceipt 16 = .ok (.iconst 1, 1) := by decide +kernel
theorem dX2_onReceipt_17 : decode cX2_onReceipt 17 = .ok (.iand, 1) := by decide +kernel
theorem dX2_onReceipt_18 : decode cX2_onReceipt 18 = .ok (.aload_n 1, 1) := by decide +kernel
theorem dX2_onReceipt_19 : decode cX2_onReceipt 19 = .ok (.getfield 226, 3) := by decide +kernel
theorem dX2_onReceipt_22 : decode cX2_onReceipt 22 = .ok (.if_icmp .ne 13, 3) := by decide +kernel
theorem dX2_onReceipt_25 : decode cX2_onReceipt 25 = .ok (.aload_n 0, 1) := by decide +kernel
theorem dX2_onReceipt_26 : decode cX2_onReceipt 26 = .ok (.iconst 1, 1) := by decide +kernel
theorem dX2_onReceipt_27 : decode cX2_onReceipt 27 = .ok (.putfield 68, 3) := by decide +kernel
theorem dX2_onReceipt_30 : decode cX2_onReceipt 30 = .ok (.aload_n 1, 1) := by decide +kernel
theorem dX2_onReceipt_31 : decode cX2_onReceipt 31 = .ok (.invokevirtual 229, 3) := by decide +kernel
theorem dX2_onReceipt_34 : decode cX2_onReceipt 34 = .ok (.ireturn, 1) := by decide +kernel
theorem dX2_onReceipt_35 : decode cX2_onReceipt 35 = .ok (.aload_n 1, 1) := by decide +kernel
theorem dX2_onReceipt_36 : decode cX2_onReceipt 36 = .ok (.invokevirtual 207, 3) := by decide +kernel
theorem dX2_onReceipt_39 : decode cX2_onReceipt 39 = .ok (.istore_n 3, 1) := by decide +kernel
theorem dX2_onReceipt_40 : decode cX2_onReceipt 40 = .ok (.aload_n 1, 1) := by decide +kernel
theorem dX2_onReceipt_41 : decode cX2_onReceipt 41 = .ok (.invokevirtual 214, 3) := by decide +kernel
theorem dX2_onReceipt_44 : decode cX2_onReceipt 44 = .ok (.iload_n 3, 1) := by decide +kernel
theorem dX2_onReceipt_45 : decode cX2_onReceipt 45 = .ok (.ifCond .eq 8, 3) := by decide +kernel
theorem dX2_onReceipt_48 : decode cX2_onReceipt 48 = .ok (.bipush (-3), 2) := by decide +kernel
theorem dX2_onReceipt_50 : decode cX2_onReceipt 50 = .ok (.goto 8, 3) := by decide +kernel
theorem dX2_onReceipt_53 : decode cX2_onReceipt 53 = .ok (.aload_n 1, 1) := by decide +kernel
theorem dX2_onReceipt_54 : decode cX2_onReceipt 54 = .ok (.iconst 0, 1) := by decide +kernel
theorem dX2_onReceipt_55 : decode cX2_onReceipt 55 = .ok (.invokevirtual 191, 3) := by decide +kernel
theorem dX2_onReceipt_58 : decode cX2_onReceipt 58 = .ok (.ireturn, 1) := by decide +kernel
set_option maxRecDepth 100000 in
set_option maxHeartbeats 4000000 in
theorem c_X2_onReceipt_r_l {hp : List gA} {L : gLn} {x : Int32}  (HL : gLine hp L)  : gM yX2_onReceipt cX2_onReceipt 4 ((some .int)) 1 21 [.ref 20, .ref 21, .int x] (hp) (0) (0) (fun v h => v = some (.int (rX2_onReceipt_r L x).1) ∧ (gLine h (rX2_onReceipt_r L x).2 ∧ gFL hp h)) := by
  refine gM_of (ls0 := [some (.ref 20), some (.ref 21), some (.int x), none]) (by decide +kernel) (Nat.le_of_ble_eq_true rfl) rfl fun X C E => ?_
  refine g_aload_n (q := 1) C dX2_onReceipt_0 rfl rfl ?_
  refine g_callVi (x := L.rd.has) (q := 4) (As := []) C gyX5_hasPending gvX5_hasPending t_703 (c_X5_hasPending_s HL.2.1) dX2_onReceipt_1 rfl HL.2.1.1 rfl rfl rfl (Nat.le_of_ble_eq_true rfl) (Nat.le_of_ble_eq_true rfl) (Nat.le_of_ble_eq_true rfl) (Nat.le_of_ble_eq_true rfl) (Nat.le_of_ble_eq_true rfl) rfl ?_
  refine g_if_ne (t := 13) (q := 7) C dX2_onReceipt_4 (by decide) rfl (fun c_4 => ?_) (fun c_4 => ?_)
  ·
    refine g_iload_n (q := 14) C dX2_onReceipt_13 rfl rfl ?_
    refine g_iconst (v := 4) (q := 15) C dX2_onReceipt_14 (by decide) rfl ?_
    refine g_ishr (q := 16) C dX2_onReceipt_15 rfl ?_
    refine g_iconst (v := 1) (q := 17) C dX2_onReceipt_16 (by decide) rfl ?_
    refine g_iand (q := 18) C dX2_onReceipt_17 rfl ?_
    refine g_aload_n (q := 19) C dX2_onReceipt_18 rfl rfl ?_
    refine g_getfield (v := .int L.rd.nx) (q := 22) C fX2_226 dX2_onReceipt_19 rfl HL.2.1.1 rfl ?_
    refine g_icmp_ne (t := 35) (q := 25) C dX2_onReceipt_22 (by decide) rfl (fun c_22 => ?_) (fun c_22 => ?_)
    ·
      refine g_aload_n (q := 36) C dX2_onReceipt_35 rfl rfl ?_
      refine g_callVi (x := L.rd.hasMore) (q := 39) (As := []) C gyX5_pendingHasMore gvX5_pendingHasMore t_678 (c_X5_pendingHasMore_s HL.2.1) dX2_onReceipt_36 rfl HL.2.1.1 rfl rfl rfl (Nat.le_of_ble_eq_true rfl) (Nat.le_of_ble_eq_true rfl) (Nat.le_of_ble_eq_true rfl) (Nat.le_of_ble_eq_true rfl) (Nat.le_of_ble_eq_true rfl) rfl ?_
      refine g_istore_n (q := 40) C dX2_onReceipt_39 (Nat.le_of_ble_eq_true rfl) (by simp only [gset]; rfl) rfl ?_
      refine g_aload_n (q := 41) C dX2_onReceipt_40 rfl rfl ?_
      refine g_callVvp (q := 44) (As := []) C gyX5_passPending gvX5_passPending t_682 (c_X5_passPending_s HL.2.1) dX2_onReceipt_41 rfl HL.2.1.1 rfl rfl rfl (Nat.le_of_ble_eq_true rfl) (Nat.le_of_ble_eq_true rfl) (Nat.le_of_ble_eq_true rfl) (Nat.le_of_ble_eq_true rfl) (Nat.le_of_ble_eq_true rfl) rfl (fun h1 z1 => ?_)
      obtain ⟨HL1, fr1⟩ := gLine.rd_ HL z1
      refine g_iload_n (q := 45) C dX2_onReceipt_44 rfl rfl ?_
      refine g_if_eq (t := 53) (q := 48) C dX2_onReceipt_45 (by decide) rfl (fun c_45 => ?_) (fun c_45 => ?_)
      ·
        refine g_aload_n (q := 54) C dX2_onReceipt_53 rfl rfl ?_
        refine g_iconst (v := 0) (q := 55) C dX2_onReceipt_54 (by decide) rfl ?_
        refine g_callVi (x := (128 + 16 * (L.side 0 L.rd.pass).rd.wa + 0)) (q := 58) (As := [.int 0]) C gyX5_receipt gvX5_receipt t_640 (c_X5_receipt_s HL1.2.1) dX2_onReceipt_55 rfl HL1.2.1.1 rfl rfl rfl (Nat.le_of_ble_eq_true rfl) (Nat.le_of_ble_eq_true rfl) (Nat.le_of_ble_eq_true rfl) (Nat.le_of_ble_eq_true rfl) (Nat.le_of_ble_eq_true rfl) rfl ?_
        have e : rX2_onReceipt_r L x = ((128 + 16 * (L.side 0 L.rd.pass).rd.wa + 0), (L.side 0 L.rd.pass)) := ((if_neg c_4).trans ((if_neg c_22).trans (if_pos c_45)))
        exact E.1 _ _ _ _ _ _ _ dX2_onReceipt_58 rfl rfl (Nat.le_of_ble_eq_true rfl) (Nat.le_of_ble_eq_true rfl) ⟨by rw [e], by rw [e]; exact ⟨HL1, fr1⟩⟩
      ·
        refine g_bipush (v := (-3)) (q := 50) C dX2_onReceipt_48 (by decide) rfl ?_
        refine g_goto (q := 58) C dX2_onReceipt_50 (by decide) ?_
        have e : rX2_onReceipt_r L x = ((-3), (L.side 0 L.rd.pass)) := ((if_neg c_4).trans ((if_neg c_22).trans (if_neg c_45)))
        exact E.1 _ _ _ _ _ _ _ dX2_onReceipt_58 rfl rfl (Nat.le_of_ble_eq_true rfl) (Nat.le_of_ble_eq_true rfl) ⟨by rw [e], by rw [e]; exact ⟨HL1, fr1⟩⟩
    ·
      refine g_aload_n (q := 26) C dX2_onReceipt_25 rfl rfl ?_
      refine g_iconst (v := 1) (q := 27) C dX2_onReceipt_26 (by decide) rfl ?_
      refine g_putfield (q := 30) C fX2_68 dX2_onReceipt_27 rfl HL.1 (Nat.le_of_ble_eq_true rfl) (Or.inl rfl) rfl rfl (by intro z h; cases h) ?_
      refine gLput (k := 8) (x := 1) HL rfl fun h2 HL2 fr2 => ?_
      refine g_aload_n (q := 31) C dX2_onReceipt_30 rfl rfl ?_
      refine g_callVi (x := (L.set 8 1).rd.pk) (q := 34) (As := []) C gyX5_pendingKind gvX5_pendingKind t_707 (c_X5_pendingKind_s HL2.2.1) dX2_onReceipt_31 rfl HL2.2.1.1 rfl rfl rfl (Nat.le_of_ble_eq_true rfl) (Nat.le_of_ble_eq_true rfl) (Nat.le_of_ble_eq_true rfl) (Nat.le_of_ble_eq_true rfl) (Nat.le_of_ble_eq_true rfl) rfl ?_
      have e : rX2_onReceipt_r L x = ((L.set 8 1).rd.pk, (L.set 8 1)) := ((if_neg c_4).trans (if_pos c_22))
      exact E.1 _ _ _ _ _ _ _ dX2_onReceipt_34 rfl rfl (Nat.le_of_ble_eq_true rfl) (Nat.le_of_ble_eq_true rfl) ⟨by rw [e], by rw [e]; exact ⟨HL2, fr2⟩⟩
  ·
    refine g_aload_n (q := 8) C dX2_onReceipt_7 rfl rfl ?_
    refine g_iconst (v := 0) (q := 9) C dX2_onReceipt_8 (by decide) rfl ?_
    refine g_callVi (x := (128 + 16 * L.rd.wa + 0)) (q := 12) (As := [.int 0]) C gyX5_receipt gvX5_receipt t_640 (c_X5_receipt_s HL.2.1) dX2_onReceipt_9 rfl HL.2.1.1 rfl rfl rfl (Nat.le_of_ble_eq_true rfl) (Nat.le_of_ble_eq_true rfl) (Nat.le_of_ble_eq_true rfl) (Nat.le_of_ble_eq_true rfl) (Nat.le_of_ble_eq_true rfl) rfl ?_
    have e : rX2_onReceipt_r L x = ((128 + 16 * L.rd.wa + 0), L) := (if_pos c_4)
    exact E.1 _ _ _ _ _ _ _ dX2_onReceipt_12 rfl rfl (Nat.le_of_ble_eq_true rfl) (Nat.le_of_ble_eq_true rfl) ⟨by rw [e], by rw [e]; exact ⟨HL, gFL.rf⟩⟩
def rX2_onRequest_r (L : gLn) (x : Int32) : Int32 × gLn := (if (x - 192) = 1 then ((x + 32), (L.side 1 (L.cd.set 2 (gat L.ca 3)))) else (if (x - 192) = 2 then ((x + 32), ((L.side 0 L.rd.brk).set 9 1)) else (if (x - 192) = 3 then ((x + 32), L) else ((rX2_refuse_r L).1, (rX2_refuse_r L).2))))
theorem dX2_onRequest_0 : decode cX2_onRequest 0 = .ok (.iload_n 3, 1) := by decide +kernel
theorem dX2_onRequest_1 : decode cX2_onRequest 1 = .ok (.sipush 192, 3) := by decide +kernel
theorem dX2_onRequest_4 : decode cX2_onRequest 4 = .ok (.isub, 1) := by decide +kernel
theorem dX2_onRequest_5 : decode cX2_onRequest 5 = .ok (.istore 4, 2) := by decide +kernel
theorem dX2_onRequest_7 : decode cX2_onRequest 7 = .ok (.iload 4, 2) := by decide +kernel
theorem dX2_onRequest_9 : decode cX2_onRequest 9 = .ok (.iconst 1, 1) := by decide +kernel
theorem dX2_onRequest_10 : decode cX2_onRequest 10 = .ok (.if_icmp .ne 20, 3) := by decide +kernel
theorem dX2_onRequest_13 : decode cX2_onRequest 13 = .ok (.aload_n 2, 1) := by decide +kernel
theorem dX2_onRequest_14 : decode cX2_onRequest 14 = .ok (.aload_n 0, 1) := by decide +kernel
theorem dX2_onRequest_15 : decode cX2_onRequest 15 = .ok (.getfield 55, 3) := by decide +kernel
theorem dX2_onRequest_18 : decode cX2_onRequest 18 = .ok (.iconst 3, 1) := by decide +kernel
theorem dX2_onRequest_19 : decode cX2_onRequest 19 = .ok (.invokevirtual 156, 3) := by decide +kernel
theorem dX2_onRequest_22 : decode cX2_onRequest 22 = .ok (.putfield 115, 3) := by decide +kernel
theorem dX2_onRequest_25 : decode cX2_onRequest 25 = .ok (.iload_n 3, 1) := by decide +kernel
theorem dX2_onRequest_26 : decode cX2_onRequest 26 = .ok (.bipush 32, 2) := by decide +kernel
theorem dX2_onRequest_28 : decode cX2_onRequest 28 = .ok (.iadd, 1) := by decide +kernel
theorem dX2_onRequest_29 : decode cX2_onRequest 29 = .ok (.ireturn, 1) := by decide +kernel
theorem dX2_onRequest_30 : decode cX2_onRequest 30 = .ok (.aload_n 1, 1) := by decide +kernel
theorem dX2_onRequest_31 : decode cX2_onRequest 31 = .ok (.aload_n 0, 1) := by decide +kernel
theorem dX2_onRequest_32 : decode cX2_onRequest 32 = .ok (.getfield 14, 3) := by decide +kernel
theorem dX2_onRequest_35 : decode cX2_onRequest 35 = .ok (.if_acmp .ne 26, 3) := by decide +kernel
theorem dX2_onRequest_38 : decode cX2_onRequest 38 = .ok (.iload 4, 2) := by decide +kernel
theorem dX2_onRequest_40 : decode cX2_onRequest 40 = .ok (.iconst 2, 1) := by decide +kernel
theorem dX2_onRequest_41 : decode cX2_onRequest 41 = .ok (.if_icmp .ne 20, 3) := by decide +kernel
theorem dX2_onRequest_44 : decode cX2_onRequest 44 = .ok (.aload_n 0, 1) := by decide +kernel
theorem dX2_onRequest_45 : decode cX2_onRequest 45 = .ok (.getfield 14, 3) := by decide +kernel
theorem dX2_onRequest_48 : decode cX2_onRequest 48 = .ok (.invokevirtual 232, 3) := by decide +kernel
theorem dX2_onRequest_51 : decode cX2_onRequest 51 = .ok (.aload_n 0, 1) := by decide +kernel
theorem dX2_onRequest_52 : decode cX2_onRequest 52 = .ok (.iconst 1, 1) := by decide +kernel
theorem dX2_onRequest_53 : decode cX2_onRequest 53 = .ok (.putfield 71, 3) := by decide +kernel
theorem dX2_onRequest_56 : decode cX2_onRequest 56 = .ok (.iload_n 3, 1) := by decide +kernel
theorem dX2_onRequest_57 : decode cX2_onRequest 57 = .ok (.bipush 32, 2) := by decide +kernel
theorem dX2_onRequest_59 : decode cX2_onRequest 59 = .ok (.iadd, 1) := by decide +kernel
theorem dX2_onRequest_60 : decode cX2_onRequest 60 = .ok (.ireturn, 1) := by decide +kernel
theorem dX2_onRequest_61 : decode cX2_onRequest 61 = .ok (.aload_n 1, 1) := by decide +kernel
theorem dX2_onRequest_62 : decode cX2_onRequest 62 = .ok (.aload_n 0, 1) := by decide +kernel
theorem dX2_onRequest_63 : decode cX2_onRequest 63 = .ok (.getfield 14, 3) := by decide +kernel
theorem dX2_onRequest_66 : decode cX2_onRequest 66 = .ok (.if_acmp .ne 14, 3) := by decide +kernel
theorem dX2_onRequest_69 : decode cX2_onRequest 69 = .ok (.iload 4, 2) := by decide +kernel
theorem dX2_onRequest_71 : decode cX2_onRequest 71 = .ok (.iconst 3, 1) := by decide +kernel
theorem dX2_onRequest_72 : decode cX2_onRequest 72 = .ok (.if_icmp .ne 8, 3) := by decide +kernel
theorem dX2_onRequest_75 : decode cX2_onRequest 75 = .ok (.iload_n 3, 1) := by decide +kernel
theorem dX2_onRequest_76 : decode cX2_onRequest 76 = .ok (.bipush 32, 2) := by decide +kernel
theorem dX2_onRequest_78 : decode cX2_onRequest 78 = .ok (.iadd, 1) := by decide +kernel
theorem dX2_onRequest_79 : decode cX2_onRequest 79 = .ok (.ireturn, 1) := by decide +kernel
theorem dX2_onRequest_80 : decode cX2_onRequest 80 = .ok (.aload_n 0, 1) := by decide +kernel
theorem dX2_onRequest_81 : decode cX2_onRequest 81 = .ok (.aload_n 1, 1) := by decide +kernel
theorem dX2_onRequest_82 : decode cX2_onRequest 82 = .ok (.invokevirtual 211, 3) := by decide +kernel
theorem dX2_onRequest_85 : decode cX2_onRequest 85 = .ok (.ireturn, 1) := by decide +kernel
set_option maxRecDepth 100000 in
set_option maxHeartbeats 4000000 in
theorem c_X2_onRequest_r_l {hp : List gA} {L : gLn} {x : Int32}  (HL : gLine hp L)  : gM yX2_onRequest cX2_onRequest 5 ((some .int)) 3 62 [.ref 20, .ref 21, .ref 28, .int x] (hp) (0) (0) (fun v h => v = some (.int (rX2_onRequest_r L x).1) ∧ (gLine h (rX2_onRequest_r L x).2 ∧ gFL hp h)) := by
  refine gM_of (ls0 := [some (.ref 20), some (.ref 21), some (.ref 28), some (.int x), none]) (by decide +kernel) (Nat.le_of_ble_eq_true rfl) rfl fun X C E => ?_
  refine g_iload_n (q := 1) C dX2_onRequest_0 rfl rfl ?_
  refine g_sipush (v := 192) (q := 4) C dX2_onRequest_1 (by decide) rfl ?_
  refine g_isub (q := 5) C dX2_onRequest_4 rfl ?_
  refine g_istore (q := 7) C dX2_onRequest_5 (Nat.le_of_ble_eq_true rfl) (by simp only [gset]; rfl) rfl ?_
  refine g_iload (q := 9) C dX2_onRequest_7 rfl rfl ?_
  refine g_iconst (v := 1) (q := 10) C dX2_onRequest_9 (by decide) rfl ?_
  refine g_icmp_ne (t := 30) (q := 13) C dX2_onRequest_10 (by decide) rfl (fun c_10 => ?_) (fun c_10 => ?_)
  ·
    refine g_aload_n (q := 31) C dX2_onRequest_30 rfl rfl ?_
    refine g_aload_n (q := 32) C dX2_onRequest_31 rfl rfl ?_
    refine g_getfield (v := .ref 21) (q := 35) C fX2_14 dX2_onRequest_32 rfl HL.1 rfl ?_
    refine g_acmp_ne (t := 61) (q := 38) C dX2_onRequest_35 (by decide) rfl (fun c_35 => ?_) (fun c_35 => ?_)
    · exact absurd rfl c_35
    ·
      refine g_iload (q := 40) C dX2_onRequest_38 rfl rfl ?_
      refine g_iconst (v := 2) (q := 41) C dX2_onRequest_40 (by decide) rfl ?_
      refine g_icmp_ne (t := 61) (q := 44) C dX2_onRequest_41 (by decide) rfl (fun c_41 => ?_) (fun c_41 => ?_)
      ·
        refine g_aload_n (q := 62) C dX2_onRequest_61 rfl rfl ?_
        refine g_aload_n (q := 63) C dX2_onRequest_62 rfl rfl ?_
        refine g_getfield (v := .ref 21) (q := 66) C fX2_14 dX2_onRequest_63 rfl HL.1 rfl ?_
        refine g_acmp_ne (t := 80) (q := 69) C dX2_onRequest_66 (by decide) rfl (fun c_66 => ?_) (fun c_66 => ?_)
        · exact absurd rfl c_66
        ·
          refine g_iload (q := 71) C dX2_onRequest_69 rfl rfl ?_
          refine g_iconst (v := 3) (q := 72) C dX2_onRequest_71 (by decide) rfl ?_
          refine g_icmp_ne (t := 80) (q := 75) C dX2_onRequest_72 (by decide) rfl (fun c_72 => ?_) (fun c_72 => ?_)
          ·
            refine g_aload_n (q := 81) C dX2_onRequest_80 rfl rfl ?_
            refine g_aload_n (q := 82) C dX2_onRequest_81 rfl rfl ?_
            refine g_callVix (x := (rX2_refuse_r L).1) (q := 85) (As := [.ref 21]) C gyX2_refuse gvX2_refuse t_670 (c_X2_refuse_r_l HL) dX2_onRequest_82 rfl HL.1 rfl rfl rfl (Nat.le_of_ble_eq_true rfl) (Nat.le_of_ble_eq_true rfl) (Nat.le_of_ble_eq_true rfl) (Nat.le_of_ble_eq_true rfl) (Nat.le_of_ble_eq_true rfl) rfl (fun h1 z1 => ?_)
            obtain ⟨HL1, fr1⟩ := z1
            have e : rX2_onRequest_r L x = ((rX2_refuse_r L).1, (rX2_refuse_r L).2) := ((if_neg c_10).trans ((if_neg c_41).trans (if_neg c_72)))
            exact E.1 _ _ _ _ _ _ _ dX2_onRequest_85 rfl rfl (Nat.le_of_ble_eq_true rfl) (Nat.le_of_ble_eq_true rfl) ⟨by rw [e], by rw [e]; exact ⟨HL1, fr1⟩⟩
          ·
            refine g_iload_n (q := 76) C dX2_onRequest_75 rfl rfl ?_
            refine g_bipush (v := 32) (q := 78) C dX2_onRequest_76 (by decide) rfl ?_
            refine g_iadd (q := 79) C dX2_onRequest_78 rfl ?_
            have e : rX2_onRequest_r L x = ((x + 32), L) := ((if_neg c_10).trans ((if_neg c_41).trans (if_pos c_72)))
            exact E.1 _ _ _ _ _ _ _ dX2_onRequest_79 rfl rfl (Nat.le_of_ble_eq_true rfl) (Nat.le_of_ble_eq_true rfl) ⟨by rw [e], by rw [e]; exact ⟨HL, gFL.rf⟩⟩
      ·
        refine g_aload_n (q := 45) C dX2_onRequest_44 rfl rfl ?_
        refine g_getfield (v := .ref 21) (q := 48) C fX2_14 dX2_onRequest_45 rfl HL.1 rfl ?_
        refine g_callVvp (q := 51) (As := []) C gyX5_breakOff gvX5_breakOff t_662 (c_X5_breakOff_s HL.2.1) dX2_onRequest_48 rfl HL.2.1.1 rfl rfl rfl (Nat.le_of_ble_eq_true rfl) (Nat.le_of_ble_eq_true rfl) (Nat.le_of_ble_eq_true rfl) (Nat.le_of_ble_eq_true rfl) (Nat.le_of_ble_eq_true rfl) rfl (fun h2 z2 => ?_)
        obtain ⟨HL2, fr2⟩ := gLine.rd_ HL z2
        refine g_aload_n (q := 52) C dX2_onRequest_51 rfl rfl ?_
        refine g_iconst (v := 1) (q := 53) C dX2_onRequest_52 (by decide) rfl ?_
        refine g_putfield (q := 56) C fX2_71 dX2_onRequest_53 rfl HL2.1 (Nat.le_of_ble_eq_true rfl) (Or.inl rfl) rfl rfl (by intro z h; cases h) ?_
        refine gLput (k := 9) (x := 1) HL2 rfl fun h3 HL3 fr3 => ?_
        refine g_iload_n (q := 57) C dX2_onRequest_56 rfl rfl ?_
        refine g_bipush (v := 32) (q := 59) C dX2_onRequest_57 (by decide) rfl ?_
        refine g_iadd (q := 60) C dX2_onRequest_59 rfl ?_
        have e : rX2_onRequest_r L x = ((x + 32), ((L.side 0 L.rd.brk).set 9 1)) := ((if_neg c_10).trans (if_pos c_41))
        exact E.1 _ _ _ _ _ _ _ dX2_onRequest_60 rfl rfl (Nat.le_of_ble_eq_true rfl) (Nat.le_of_ble_eq_true rfl) ⟨by rw [e], by rw [e]; exact ⟨HL3, (gFL.trans fr2 fr3)⟩⟩
  ·
    refine g_aload_n (q := 14) C dX2_onRequest_13 rfl rfl ?_
    refine g_aload_n (q := 15) C dX2_onRequest_14 rfl rfl ?_
    refine g_getfield (v := .ref 41) (q := 18) C fX2_55 dX2_onRequest_15 rfl HL.1 rfl ?_
    refine g_iconst (v := 3) (q := 19) C dX2_onRequest_18 (by decide) rfl ?_
    refine g_callVi (x := (gat L.ca 3)) (q := 22) (As := [.int 3]) C gyX4_at gvX4_at t_644 (c_X4_at_w HL.2.2.2.2) dX2_onRequest_19 rfl (gRw.obj HL.2.2.2.2) rfl rfl rfl (Nat.le_of_ble_eq_true rfl) (Nat.le_of_ble_eq_true rfl) (Nat.le_of_ble_eq_true rfl) (Nat.le_of_ble_eq_true rfl) (Nat.le_of_ble_eq_true rfl) rfl ?_
    refine g_putfield (q := 25) C fX2_115 dX2_onRequest_22 rfl HL.2.2.1.1 (Nat.le_of_ble_eq_true rfl) (Or.inl rfl) rfl rfl (by intro z h; cases h) ?_
    refine gLput_cd (k := 2) (x := (gat L.ca 3)) HL rfl fun h4 HL4 fr4 => ?_
    refine g_iload_n (q := 26) C dX2_onRequest_25 rfl rfl ?_
    refine g_bipush (v := 32) (q := 28) C dX2_onRequest_26 (by decide) rfl ?_
    refine g_iadd (q := 29) C dX2_onRequest_28 rfl ?_
    have e : rX2_onRequest_r L x = ((x + 32), (L.side 1 (L.cd.set 2 (gat L.ca 3)))) := (if_pos c_10)
    exact E.1 _ _ _ _ _ _ _ dX2_onRequest_29 rfl rfl (Nat.le_of_ble_eq_true rfl) (Nat.le_of_ble_eq_true rfl) ⟨by rw [e], by rw [e]; exact ⟨HL4, fr4⟩⟩
def rX2_kindToSend_r (L : gLn) (x : Int32) : Int32 × gLn := (if x = (-2) then (if x = (-2) then (((L.side 0 (L.rd.set 3 0)).rd.cut ((L.side 0 (L.rd.set 3 0)).cd.ro)).pk, ((L.side 0 (L.rd.set 3 0)).side 0 ((L.side 0 (L.rd.set 3 0)).rd.cut ((L.side 0 (L.rd.set 3 0)).cd.ro)))) else (if x = (-3) then (((L.side 0 (L.rd.set 3 0)).rd.cut ((L.side 0 (L.rd.set 3 0)).cd.ro)).pk, ((L.side 0 (L.rd.set 3 0)).side 0 ((L.side 0 (L.rd.set 3 0)).rd.cut ((L.side 0 (L.rd.set 3 0)).cd.ro)))) else (x, (L.side 0 (L.rd.set 3 0))))) else (if x = (-2) then ((L.rd.cut L.cd.ro).pk, (L.side 0 (L.rd.cut L.cd.ro))) else (if x = (-3) then ((L.rd.cut L.cd.ro).pk, (L.side 0 (L.rd.cut L.cd.ro))) else (x, L))))
theorem dX2_kindToSend_0 : decode cX2_kindToSend 0 = .ok (.iload_n 2, 1) := by decide +kernel
theorem dX2_kindToSend_1 : decode cX2_kindToSend 1 = .ok (.bipush (-2), 2) := by decide +kernel
theorem dX2_kindToSend_3 : decode cX2_kindToSend 3 = .ok (.if_icmp .ne 8, 3) := by decide +kernel
theorem dX2_kindToSend_6 : decode cX2_kindToSend 6 = .ok (.aload_n 0, 1) := by decide +kernel
theorem dX2_kindToSend_7 : decode cX2_kindToSend 7 = .ok (.iconst 0, 1) := by decide +kernel
theorem dX2_kindToSend_8 : decode cX2_kindToSend 8 = .ok (.putfield 105, 3) := by decide +kernel
theorem dX2_kindToSend_11 : decode cX2_kindToSend 11 = .ok (.iload_n 2, 1) := by decide +kernel
theorem dX2_kindToSend_12 : decode cX2_kindToSend 12 = .ok (.bipush (-2), 2) := by decide +kernel
theorem dX2_kindToSend_14 : decode cX2_kindToSend 14 = .ok (.if_icmp .eq 9, 3) := by decide +kernel
theorem dX2_kindToSend_17 : decode cX2_kindToSend 17 = .ok (.iload_n 2, 1) := by decide +kernel
theorem dX2_kindToSend_18 : decode cX2_kindToSend 18 = .ok (.bipush (-3), 2) := by decide +kernel
theorem dX2_kindToSend_20 : decode cX2_kindToSend 20 = .ok (.if_icmp .ne 14, 3) := by decide +kernel
theorem dX2_kindToSend_23 : decode cX2_kindToSend 23 = .ok (.aload_n 0, 1) := by decide +kernel
theorem dX2_kindToSend_24 : decode cX2_kindToSend 24 = .ok (.aload_n 1, 1) := by decide +kernel
theorem dX2_kindToSend_25 : decode cX2_kindToSend 25 = .ok (.getfield 115, 3) := by decide +kernel
theorem dX2_kindToSend_28 : decode cX2_kindToSend 28 = .ok (.invokevirtual 244, 3) := by decide +kernel
theorem dX2_kindToSend_31 : decode cX2_kindToSend 31 = .ok (.goto 4, 3) := by decide +kernel
theorem dX2_kindToSend_34 : decode cX2_kindToSend 34 = .ok (.iload_n 2, 1) := by decide +kernel
theorem dX2_kindToSend_35 : decode cX2_kindToSend 35 = .ok (.ireturn, 1) := by decide +kernel
set_option maxRecDepth 100000 in
set_option maxHeartbeats 4000000 in
theorem c_X2_kindToSend_r_l {hp : List gA} {L : gLn} {x : Int32}  (HL : gLine hp L)  : gM yX2_kindToSend cX2_kindToSend 3 ((some .int)) 2 43 [.ref 21, .ref 28, .int x] (hp) (0) (0) (fun v h => v = some (.int (rX2_kindToSend_r L x).1) ∧ (gLine h (rX2_kindToSend_r L x).2 ∧ gFL hp h)) := by
  refine gM_of (ls0 := [some (.ref 21), some (.ref 28), some (.int x)]) (by decide +kernel) (Nat.le_of_ble_eq_true rfl) rfl fun X C E => ?_
  refine g_iload_n (q := 1) C dX2_kindToSend_0 rfl rfl ?_
  refine g_bipush (v := (-2)) (q := 3) C dX2_kindToSend_1 (by decide) rfl ?_
  refine g_icmp_ne (t := 11) (q := 6) C dX2_kindToSend_3 (by decide) rfl (fun c_3 => ?_) (fun c_3 => ?_)
  ·
    refine g_iload_n (q := 12) C dX2_kindToSend_11 rfl rfl ?_
    refine g_bipush (v := (-2)) (q := 14) C dX2_kindToSend_12 (by decide) rfl ?_
    refine g_icmp_eq (t := 23) (q := 17) C dX2_kindToSend_14 (by decide) rfl (fun c_14 => ?_) (fun c_14 => ?_)
    ·
      refine g_aload_n (q := 24) C dX2_kindToSend_23 rfl rfl ?_
      refine g_aload_n (q := 25) C dX2_kindToSend_24 rfl rfl ?_
      refine g_getfield (v := .int L.cd.ro) (q := 28) C fX2_115 dX2_kindToSend_25 rfl HL.2.2.1.1 rfl ?_
      refine g_callVix (x := (L.rd.cut L.cd.ro).pk) (q := 31) (As := [.int L.cd.ro]) C gyX5_cutNext gvX5_cutNext t_722 (c_X5_cutNext_s HL.2.1) dX2_kindToSend_28 rfl HL.2.1.1 rfl rfl rfl (Nat.le_of_ble_eq_true rfl) (Nat.le_of_ble_eq_true rfl) (Nat.le_of_ble_eq_true rfl) (Nat.le_of_ble_eq_true rfl) (Nat.le_of_ble_eq_true rfl) rfl (fun h1 z1 => ?_)
      obtain ⟨HL1, fr1⟩ := gLine.rd_ HL z1
      refine g_goto (q := 35) C dX2_kindToSend_31 (by decide) ?_
      have e : rX2_kindToSend_r L x = ((L.rd.cut L.cd.ro).pk, (L.side 0 (L.rd.cut L.cd.ro))) := ((if_neg c_3).trans (if_pos c_14))
      exact E.1 _ _ _ _ _ _ _ dX2_kindToSend_35 rfl rfl (Nat.le_of_ble_eq_true rfl) (Nat.le_of_ble_eq_true rfl) ⟨by rw [e], by rw [e]; exact ⟨HL1, fr1⟩⟩
    ·
      refine g_iload_n (q := 18) C dX2_kindToSend_17 rfl rfl ?_
      refine g_bipush (v := (-3)) (q := 20) C dX2_kindToSend_18 (by decide) rfl ?_
      refine g_icmp_ne (t := 34) (q := 23) C dX2_kindToSend_20 (by decide) rfl (fun c_20 => ?_) (fun c_20 => ?_)
      ·
        refine g_iload_n (q := 35) C dX2_kindToSend_34 rfl rfl ?_
        have e : rX2_kindToSend_r L x = (x, L) := ((if_neg c_3).trans ((if_neg c_14).trans (if_neg c_20)))
        exact E.1 _ _ _ _ _ _ _ dX2_kindToSend_35 rfl rfl (Nat.le_of_ble_eq_true rfl) (Nat.le_of_ble_eq_true rfl) ⟨by rw [e], by rw [e]; exact ⟨HL, gFL.rf⟩⟩
      ·
        refine g_aload_n (q := 24) C dX2_kindToSend_23 rfl rfl ?_
        refine g_aload_n (q := 25) C dX2_kindToSend_24 rfl rfl ?_
        refine g_getfield (v := .int L.cd.ro) (q := 28) C fX2_115 dX2_kindToSend_25 rfl HL.2.2.1.1 rfl ?_
        refine g_callVix (x := (L.rd.cut L.cd.ro).pk) (q := 31) (As := [.int L.cd.ro]) C gyX5_cutNext gvX5_cutNext t_722 (c_X5_cutNext_s HL.2.1) dX2_kindToSend_28 rfl HL.2.1.1 rfl rfl rfl (Nat.le_of_ble_eq_true rfl) (Nat.le_of_ble_eq_true rfl) (Nat.le_of_ble_eq_true rfl) (Nat.le_of_ble_eq_true rfl) (Nat.le_of_ble_eq_true rfl) rfl (fun h2 z2 => ?_)
        obtain ⟨HL2, fr2⟩ := gLine.rd_ HL z2
        refine g_goto (q := 35) C dX2_kindToSend_31 (by decide) ?_
        have e : rX2_kindToSend_r L x = ((L.rd.cut L.cd.ro).pk, (L.side 0 (L.rd.cut L.cd.ro))) := ((if_neg c_3).trans ((if_neg c_14).trans (if_pos c_20)))
        exact E.1 _ _ _ _ _ _ _ dX2_kindToSend_35 rfl rfl (Nat.le_of_ble_eq_true rfl) (Nat.le_of_ble_eq_true rfl) ⟨by rw [e], by rw [e]; exact ⟨HL2, fr2⟩⟩
  ·
    refine g_aload_n (q := 7) C dX2_kindToSend_6 rfl rfl ?_
    refine g_iconst (v := 0) (q := 8) C dX2_kindToSend_7 (by decide) rfl ?_
    refine g_putfield (q := 11) C fX2_105 dX2_kindToSend_8 rfl HL.2.1.1 (Nat.le_of_ble_eq_true rfl) (Or.inl rfl) rfl rfl (by intro z h; cases h) ?_
    refine gLput_rd (k := 3) (x := 0) HL rfl fun h3 HL3 fr3 => ?_
    refine g_iload_n (q := 12) C dX2_kindToSend_11 rfl rfl ?_
    refine g_bipush (v := (-2)) (q := 14) C dX2_kindToSend_12 (by decide) rfl ?_
    refine g_icmp_eq (t := 23) (q := 17) C dX2_kindToSend_14 (by decide) rfl (fun c_14 => ?_) (fun c_14 => ?_)
    ·
      refine g_aload_n (q := 24) C dX2_kindToSend_23 rfl rfl ?_
      refine g_aload_n (q := 25) C dX2_kindToSend_24 rfl rfl ?_
      refine g_getfield (v := .int ((L.side 0 (L.rd.set 3 0)).cd.ro)) (q := 28) C fX2_115 dX2_kindToSend_25 rfl HL3.2.2.1.1 rfl ?_
      refine g_callVix (x := ((L.side 0 (L.rd.set 3 0)).rd.cut ((L.side 0 (L.rd.set 3 0)).cd.ro)).pk) (q := 31) (As := [.int ((L.side 0 (L.rd.set 3 0)).cd.ro)]) C gyX5_cutNext gvX5_cutNext t_722 (c_X5_cutNext_s HL3.2.1) dX2_kindToSend_28 rfl HL3.2.1.1 rfl rfl rfl (Nat.le_of_ble_eq_true rfl) (Nat.le_of_ble_eq_true rfl) (Nat.le_of_ble_eq_true rfl) (Nat.le_of_ble_eq_true rfl) (Nat.le_of_ble_eq_true rfl) rfl (fun h4 z4 => ?_)
      obtain ⟨HL4, fr4⟩ := gLine.rd_ HL3 z4
      refine g_goto (q := 35) C dX2_kindToSend_31 (by decide) ?_
      have e : rX2_kindToSend_r L x = (((L.side 0 (L.rd.set 3 0)).rd.cut ((L.side 0 (L.rd.set 3 0)).cd.ro)).pk, ((L.side 0 (L.rd.set 3 0)).side 0 ((L.side 0 (L.rd.set 3 0)).rd.cut ((L.side 0 (L.rd.set 3 0)).cd.ro)))) := ((if_pos c_3).trans (if_pos c_14))
      exact E.1 _ _ _ _ _ _ _ dX2_kindToSend_35 rfl rfl (Nat.le_of_ble_eq_true rfl) (Nat.le_of_ble_eq_true rfl) ⟨by rw [e], by rw [e]; exact ⟨HL4, (gFL.trans fr3 fr4)⟩⟩
    ·
      refine g_iload_n (q := 18) C dX2_kindToSend_17 rfl rfl ?_
      refine g_bipush (v := (-3)) (q := 20) C dX2_kindToSend_18 (by decide) rfl ?_
      refine g_icmp_ne (t := 34) (q := 23) C dX2_kindToSend_20 (by decide) rfl (fun c_20 => ?_) (fun c_20 => ?_)
      ·
        refine g_iload_n (q := 35) C dX2_kindToSend_34 rfl rfl ?_
        have e : rX2_kindToSend_r L x = (x, (L.side 0 (L.rd.set 3 0))) := ((if_pos c_3).trans ((if_neg c_14).trans (if_neg c_20)))
        exact E.1 _ _ _ _ _ _ _ dX2_kindToSend_35 rfl rfl (Nat.le_of_ble_eq_true rfl) (Nat.le_of_ble_eq_true rfl) ⟨by rw [e], by rw [e]; exact ⟨HL3, fr3⟩⟩
      ·
        refine g_aload_n (q := 24) C dX2_kindToSend_23 rfl rfl ?_
        refine g_aload_n (q := 25) C dX2_kindToSend_24 rfl rfl ?_
        refine g_getfield (v := .int ((L.side 0 (L.rd.set 3 0)).cd.ro)) (q := 28) C fX2_115 dX2_kindToSend_25 rfl HL3.2.2.1.1 rfl ?_
        refine g_callVix (x := ((L.side 0 (L.rd.set 3 0)).rd.cut ((L.side 0 (L.rd.set 3 0)).cd.ro)).pk) (q := 31) (As := [.int ((L.side 0 (L.rd.set 3 0)).cd.ro)]) C gyX5_cutNext gvX5_cutNext t_722 (c_X5_cutNext_s HL3.2.1) dX2_kindToSend_28 rfl HL3.2.1.1 rfl rfl rfl (Nat.le_of_ble_eq_true rfl) (Nat.le_of_ble_eq_true rfl) (Nat.le_of_ble_eq_true rfl) (Nat.le_of_ble_eq_true rfl) (Nat.le_of_ble_eq_true rfl) rfl (fun h5 z5 => ?_)
        obtain ⟨HL5, fr5⟩ := gLine.rd_ HL3 z5
        refine g_goto (q := 35) C dX2_kindToSend_31 (by decide) ?_
        have e : rX2_kindToSend_r L x = (((L.side 0 (L.rd.set 3 0)).rd.cut ((L.side 0 (L.rd.set 3 0)).cd.ro)).pk, ((L.side 0 (L.rd.set 3 0)).side 0 ((L.side 0 (L.rd.set 3 0)).rd.cut ((L.side 0 (L.rd.set 3 0)).cd.ro)))) := ((if_pos c_3).trans ((if_neg c_14).trans (if_pos c_20)))
        exact E.1 _ _ _ _ _ _ _ dX2_kindToSend_35 rfl rfl (Nat.le_of_ble_eq_true rfl) (Nat.le_of_ble_eq_true rfl) ⟨by rw [e], by rw [e]; exact ⟨HL5, (gFL.trans fr3 fr5)⟩⟩
def rX2_onI_c (L : gLn) (x : Int32) : Int32 × gLn := (if (x >>> (6 &&& 31)) = L.cd.wa then (if L.cd.hasMore = 0 then (if (x &&& 32) = 0 then ((-4), (((L.side 1 L.cd.pass).side 1 ((L.side 1 L.cd.pass).cd.take (L.side 1 L.cd.pass).ca)).side 1 (((L.side 1 L.cd.pass).side 1 ((L.side 1 L.cd.pass).cd.take (L.side 1 L.cd.pass).ca)).cd.whole))) else ((128 + 16 * ((L.side 1 L.cd.pass).side 1 ((L.side 1 L.cd.pass).cd.take (L.side 1 L.cd.pass).ca)).cd.wa + 0), ((L.side 1 L.cd.pass).side 1 ((L.side 1 L.cd.pass).cd.take (L.side 1 L.cd.pass).ca)))) else ((rX2_refuse_c L).1, (rX2_refuse_c L).2)) else ((rX2_refuse_c L).1, (rX2_refuse_c L).2))
theorem dX2_onI_69 : decode cX2_onI 69 = .ok (.bipush (-4), 2) := by decide +kernel
set_option maxRecDepth 100000 in
set_option maxHeartbeats 4000000 in
theorem c_X2_onI_c_l {hp : List gA} {L : gLn} {x : Int32}  (HL : gLine hp L) (hca : 4 ≤ L.ca.length) : gM yX2_onI cX2_onI 3 ((some .int)) 4 125 [.ref 20, .ref 28, .int x] (hp) (0) (0) (fun v h => v = some (.int (rX2_onI_c L x).1) ∧ (gLine h (rX2_onI_c L x).2 ∧ gFL hp h)) := by
  refine gM_of (ls0 := [some (.ref 20), some (.ref 28), some (.int x)]) (by decide +kernel) (Nat.le_of_ble_eq_true rfl) rfl fun X C E => ?_
  refine g_iload_n (q := 1) C dX2_onI_0 rfl rfl ?_
  refine g_bipush (v := 6) (q := 3) C dX2_onI_1 (by decide) rfl ?_
  refine g_ishr (q := 4) C dX2_onI_3 rfl ?_
  refine g_aload_n (q := 5) C dX2_onI_4 rfl rfl ?_
  refine g_getfield (v := .int L.cd.wa) (q := 8) C fX2_204 dX2_onI_5 rfl HL.2.2.1.1 rfl ?_
  refine g_icmp_ne (t := 18) (q := 11) C dX2_onI_8 (by decide) rfl (fun c_8 => ?_) (fun c_8 => ?_)
  ·
    refine g_aload_n (q := 19) C dX2_onI_18 rfl rfl ?_
    refine g_aload_n (q := 20) C dX2_onI_19 rfl rfl ?_
    refine g_callVix (x := (rX2_refuse_c L).1) (q := 23) (As := [.ref 28]) C gyX2_refuse gvX2_refuse t_670 (c_X2_refuse_c_l HL) dX2_onI_20 rfl HL.1 rfl rfl rfl (Nat.le_of_ble_eq_true rfl) (Nat.le_of_ble_eq_true rfl) (Nat.le_of_ble_eq_true rfl) (Nat.le_of_ble_eq_true rfl) (Nat.le_of_ble_eq_true rfl) rfl (fun h1 z1 => ?_)
    obtain ⟨HL1, fr1⟩ := z1
    have e : rX2_onI_c L x = ((rX2_refuse_c L).1, (rX2_refuse_c L).2) := (if_neg c_8)
    exact E.1 _ _ _ _ _ _ _ dX2_onI_23 rfl rfl (Nat.le_of_ble_eq_true rfl) (Nat.le_of_ble_eq_true rfl) ⟨by rw [e], by rw [e]; exact ⟨HL1, fr1⟩⟩
  ·
    refine g_aload_n (q := 12) C dX2_onI_11 rfl rfl ?_
    refine g_callVi (x := L.cd.hasMore) (q := 15) (As := []) C gyX5_pendingHasMore gvX5_pendingHasMore t_678 (c_X5_pendingHasMore_s HL.2.2.1) dX2_onI_12 rfl HL.2.2.1.1 rfl rfl rfl (Nat.le_of_ble_eq_true rfl) (Nat.le_of_ble_eq_true rfl) (Nat.le_of_ble_eq_true rfl) (Nat.le_of_ble_eq_true rfl) (Nat.le_of_ble_eq_true rfl) rfl ?_
    refine g_if_eq (t := 24) (q := 18) C dX2_onI_15 (by decide) rfl (fun c_15 => ?_) (fun c_15 => ?_)
    ·
      refine g_aload_n (q := 25) C dX2_onI_24 rfl rfl ?_
      refine g_callVvp (q := 28) (As := []) C gyX5_passPending gvX5_passPending t_682 (c_X5_passPending_s HL.2.2.1) dX2_onI_25 rfl HL.2.2.1.1 rfl rfl rfl (Nat.le_of_ble_eq_true rfl) (Nat.le_of_ble_eq_true rfl) (Nat.le_of_ble_eq_true rfl) (Nat.le_of_ble_eq_true rfl) (Nat.le_of_ble_eq_true rfl) rfl (fun h2 z2 => ?_)
      obtain ⟨HL2, fr2⟩ := gLine.cd_ HL z2
      refine g_aload_n (q := 29) C dX2_onI_28 rfl rfl ?_
      refine g_aload_n (q := 30) C dX2_onI_29 rfl rfl ?_
      refine g_getfield (v := .ref 41) (q := 33) C fX2_55 dX2_onI_30 rfl HL2.1 rfl ?_
      refine g_callVvp (q := 36) (As := [.ref 41]) C gyX5_takeInf gvX5_takeInf t_683 (c_X5_takeInf_s HL2.2.2.1 HL2.2.2.2.2 (by decide) (by decide) hca) dX2_onI_33 rfl HL2.2.2.1.1 rfl rfl rfl (Nat.le_of_ble_eq_true rfl) (Nat.le_of_ble_eq_true rfl) (Nat.le_of_ble_eq_true rfl) (Nat.le_of_ble_eq_true rfl) (Nat.le_of_ble_eq_true rfl) rfl (fun h3 z3 => ?_)
      obtain ⟨HL3, fr3⟩ := gLine.cd_ HL2 z3
      refine g_iload_n (q := 37) C dX2_onI_36 rfl rfl ?_
      refine g_bipush (v := 32) (q := 39) C dX2_onI_37 (by decide) rfl ?_
      refine g_iand (q := 40) C dX2_onI_39 rfl ?_
      refine g_if_eq (t := 49) (q := 43) C dX2_onI_40 (by decide) rfl (fun c_40 => ?_) (fun c_40 => ?_)
      ·
        refine g_aload_n (q := 50) C dX2_onI_49 rfl rfl ?_
        refine g_callVvp (q := 53) (As := []) C gyX5_takeWhole gvX5_takeWhole t_690 (c_X5_takeWhole_s HL3.2.2.1) dX2_onI_50 rfl HL3.2.2.1.1 rfl rfl rfl (Nat.le_of_ble_eq_true rfl) (Nat.le_of_ble_eq_true rfl) (Nat.le_of_ble_eq_true rfl) (Nat.le_of_ble_eq_true rfl) (Nat.le_of_ble_eq_true rfl) rfl (fun h4 z4 => ?_)
        obtain ⟨HL4, fr4⟩ := gLine.cd_ HL3 z4
        refine g_aload_n (q := 54) C dX2_onI_53 rfl rfl ?_
        refine g_aload_n (q := 55) C dX2_onI_54 rfl rfl ?_
        refine g_getfield (v := .ref 21) (q := 58) C fX2_14 dX2_onI_55 rfl HL4.1 rfl ?_
        refine g_acmp_ne (t := 69) (q := 61) C dX2_onI_58 (by decide) rfl (fun c_58 => ?_) (fun c_58 => ?_)
        ·
          refine g_bipush (v := (-4)) (q := 71) C dX2_onI_69 (by decide) rfl ?_
          have e : rX2_onI_c L x = ((-4), (((L.side 1 L.cd.pass).side 1 ((L.side 1 L.cd.pass).cd.take (L.side 1 L.cd.pass).ca)).side 1 (((L.side 1 L.cd.pass).side 1 ((L.side 1 L.cd.pass).cd.take (L.side 1 L.cd.pass).ca)).cd.whole))) := ((if_pos c_8).trans ((if_pos c_15).trans (if_pos c_40)))
          exact E.1 _ _ _ _ _ _ _ dX2_onI_71 rfl rfl (Nat.le_of_ble_eq_true rfl) (Nat.le_of_ble_eq_true rfl) ⟨by rw [e], by rw [e]; exact ⟨HL4, (gFL.trans (gFL.trans fr2 fr3) fr4)⟩⟩
        · exact absurd c_58 (by decide)
      ·
        refine g_aload_n (q := 44) C dX2_onI_43 rfl rfl ?_
        refine g_iconst (v := 0) (q := 45) C dX2_onI_44 (by decide) rfl ?_
        refine g_callVi (x := (128 + 16 * ((L.side 1 L.cd.pass).side 1 ((L.side 1 L.cd.pass).cd.take (L.side 1 L.cd.pass).ca)).cd.wa + 0)) (q := 48) (As := [.int 0]) C gyX5_receipt gvX5_receipt t_640 (c_X5_receipt_s HL3.2.2.1) dX2_onI_45 rfl HL3.2.2.1.1 rfl rfl rfl (Nat.le_of_ble_eq_true rfl) (Nat.le_of_ble_eq_true rfl) (Nat.le_of_ble_eq_true rfl) (Nat.le_of_ble_eq_true rfl) (Nat.le_of_ble_eq_true rfl) rfl ?_
        have e : rX2_onI_c L x = ((128 + 16 * ((L.side 1 L.cd.pass).side 1 ((L.side 1 L.cd.pass).cd.take (L.side 1 L.cd.pass).ca)).cd.wa + 0), ((L.side 1 L.cd.pass).side 1 ((L.side 1 L.cd.pass).cd.take (L.side 1 L.cd.pass).ca))) := ((if_pos c_8).trans ((if_pos c_15).trans (if_neg c_40)))
        exact E.1 _ _ _ _ _ _ _ dX2_onI_48 rfl rfl (Nat.le_of_ble_eq_true rfl) (Nat.le_of_ble_eq_true rfl) ⟨by rw [e], by rw [e]; exact ⟨HL3, (gFL.trans fr2 fr3)⟩⟩
    ·
      refine g_aload_n (q := 19) C dX2_onI_18 rfl rfl ?_
      refine g_aload_n (q := 20) C dX2_onI_19 rfl rfl ?_
      refine g_callVix (x := (rX2_refuse_c L).1) (q := 23) (As := [.ref 28]) C gyX2_refuse gvX2_refuse t_670 (c_X2_refuse_c_l HL) dX2_onI_20 rfl HL.1 rfl rfl rfl (Nat.le_of_ble_eq_true rfl) (Nat.le_of_ble_eq_true rfl) (Nat.le_of_ble_eq_true rfl) (Nat.le_of_ble_eq_true rfl) (Nat.le_of_ble_eq_true rfl) rfl (fun h5 z5 => ?_)
      obtain ⟨HL5, fr5⟩ := z5
      have e : rX2_onI_c L x = ((rX2_refuse_c L).1, (rX2_refuse_c L).2) := ((if_pos c_8).trans (if_neg c_15))
      exact E.1 _ _ _ _ _ _ _ dX2_onI_23 rfl rfl (Nat.le_of_ble_eq_true rfl) (Nat.le_of_ble_eq_true rfl) ⟨by rw [e], by rw [e]; exact ⟨HL5, fr5⟩⟩
def rX2_onReceipt_c (L : gLn) (x : Int32) : Int32 × gLn := (if L.cd.has = 0 then ((128 + 16 * L.cd.wa + 0), L) else (if ((x >>> (4 &&& 31)) &&& 1) = L.cd.nx then ((L.set 8 1).cd.pk, (L.set 8 1)) else (if L.cd.hasMore = 0 then ((128 + 16 * (L.side 1 L.cd.pass).cd.wa + 0), (L.side 1 L.cd.pass)) else ((-3), (L.side 1 L.cd.pass)))))
set_option maxRecDepth 100000 in
set_option maxHeartbeats 4000000 in
theorem c_X2_onReceipt_c_l {hp : List gA} {L : gLn} {x : Int32}  (HL : gLine hp L)  : gM yX2_onReceipt cX2_onReceipt 4 ((some .int)) 1 21 [.ref 20, .ref 28, .int x] (hp) (0) (0) (fun v h => v = some (.int (rX2_onReceipt_c L x).1) ∧ (gLine h (rX2_onReceipt_c L x).2 ∧ gFL hp h)) := by
  refine gM_of (ls0 := [some (.ref 20), some (.ref 28), some (.int x), none]) (by decide +kernel) (Nat.le_of_ble_eq_true rfl) rfl fun X C E => ?_
  refine g_aload_n (q := 1) C dX2_onReceipt_0 rfl rfl ?_
  refine g_callVi (x := L.cd.has) (q := 4) (As := []) C gyX5_hasPending gvX5_hasPending t_703 (c_X5_hasPending_s HL.2.2.1) dX2_onReceipt_1 rfl HL.2.2.1.1 rfl rfl rfl (Nat.le_of_ble_eq_true rfl) (Nat.le_of_ble_eq_true rfl) (Nat.le_of_ble_eq_true rfl) (Nat.le_of_ble_eq_true rfl) (Nat.le_of_ble_eq_true rfl) rfl ?_
  refine g_if_ne (t := 13) (q := 7) C dX2_onReceipt_4 (by decide) rfl (fun c_4 => ?_) (fun c_4 => ?_)
  ·
    refine g_iload_n (q := 14) C dX2_onReceipt_13 rfl rfl ?_
    refine g_iconst (v := 4) (q := 15) C dX2_onReceipt_14 (by decide) rfl ?_
    refine g_ishr (q := 16) C dX2_onReceipt_15 rfl ?_
    refine g_iconst (v := 1) (q := 17) C dX2_onReceipt_16 (by decide) rfl ?_
    refine g_iand (q := 18) C dX2_onReceipt_17 rfl ?_
    refine g_aload_n (q := 19) C dX2_onReceipt_18 rfl rfl ?_
    refine g_getfield (v := .int L.cd.nx) (q := 22) C fX2_226 dX2_onReceipt_19 rfl HL.2.2.1.1 rfl ?_
    refine g_icmp_ne (t := 35) (q := 25) C dX2_onReceipt_22 (by decide) rfl (fun c_22 => ?_) (fun c_22 => ?_)
    ·
      refine g_aload_n (q := 36) C dX2_onReceipt_35 rfl rfl ?_
      refine g_callVi (x := L.cd.hasMore) (q := 39) (As := []) C gyX5_pendingHasMore gvX5_pendingHasMore t_678 (c_X5_pendingHasMore_s HL.2.2.1) dX2_onReceipt_36 rfl HL.2.2.1.1 rfl rfl rfl (Nat.le_of_ble_eq_true rfl) (Nat.le_of_ble_eq_true rfl) (Nat.le_of_ble_eq_true rfl) (Nat.le_of_ble_eq_true rfl) (Nat.le_of_ble_eq_true rfl) rfl ?_
      refine g_istore_n (q := 40) C dX2_onReceipt_39 (Nat.le_of_ble_eq_true rfl) (by simp only [gset]; rfl) rfl ?_
      refine g_aload_n (q := 41) C dX2_onReceipt_40 rfl rfl ?_
      refine g_callVvp (q := 44) (As := []) C gyX5_passPending gvX5_passPending t_682 (c_X5_passPending_s HL.2.2.1) dX2_onReceipt_41 rfl HL.2.2.1.1 rfl rfl rfl (Nat.le_of_ble_eq_true rfl) (Nat.le_of_ble_eq_true rfl) (Nat.le_of_ble_eq_true rfl) (Nat.le_of_ble_eq_true rfl) (Nat.le_of_ble_eq_true rfl) rfl (fun h1 z1 => ?_)
      obtain ⟨HL1, fr1⟩ := gLine.cd_ HL z1
      refine g_iload_n (q := 45) C dX2_onReceipt_44 rfl rfl ?_
      refine g_if_eq (t := 53) (q := 48) C dX2_onReceipt_45 (by decide) rfl (fun c_45 => ?_) (fun c_45 => ?_)
      ·
        refine g_aload_n (q := 54) C dX2_onReceipt_53 rfl rfl ?_
        refine g_iconst (v := 0) (q := 55) C dX2_onReceipt_54 (by decide) rfl ?_
        refine g_callVi (x := (128 + 16 * (L.side 1 L.cd.pass).cd.wa + 0)) (q := 58) (As := [.int 0]) C gyX5_receipt gvX5_receipt t_640 (c_X5_receipt_s HL1.2.2.1) dX2_onReceipt_55 rfl HL1.2.2.1.1 rfl rfl rfl (Nat.le_of_ble_eq_true rfl) (Nat.le_of_ble_eq_true rfl) (Nat.le_of_ble_eq_true rfl) (Nat.le_of_ble_eq_true rfl) (Nat.le_of_ble_eq_true rfl) rfl ?_
        have e : rX2_onReceipt_c L x = ((128 + 16 * (L.side 1 L.cd.pass).cd.wa + 0), (L.side 1 L.cd.pass)) := ((if_neg c_4).trans ((if_neg c_22).trans (if_pos c_45)))
        exact E.1 _ _ _ _ _ _ _ dX2_onReceipt_58 rfl rfl (Nat.le_of_ble_eq_true rfl) (Nat.le_of_ble_eq_true rfl) ⟨by rw [e], by rw [e]; exact ⟨HL1, fr1⟩⟩
      ·
        refine g_bipush (v := (-3)) (q := 50) C dX2_onReceipt_48 (by decide) rfl ?_
        refine g_goto (q := 58) C dX2_onReceipt_50 (by decide) ?_
        have e : rX2_onReceipt_c L x = ((-3), (L.side 1 L.cd.pass)) := ((if_neg c_4).trans ((if_neg c_22).trans (if_neg c_45)))
        exact E.1 _ _ _ _ _ _ _ dX2_onReceipt_58 rfl rfl (Nat.le_of_ble_eq_true rfl) (Nat.le_of_ble_eq_true rfl) ⟨by rw [e], by rw [e]; exact ⟨HL1, fr1⟩⟩
    ·
      refine g_aload_n (q := 26) C dX2_onReceipt_25 rfl rfl ?_
      refine g_iconst (v := 1) (q := 27) C dX2_onReceipt_26 (by decide) rfl ?_
      refine g_putfield (q := 30) C fX2_68 dX2_onReceipt_27 rfl HL.1 (Nat.le_of_ble_eq_true rfl) (Or.inl rfl) rfl rfl (by intro z h; cases h) ?_
      refine gLput (k := 8) (x := 1) HL rfl fun h2 HL2 fr2 => ?_
      refine g_aload_n (q := 31) C dX2_onReceipt_30 rfl rfl ?_
      refine g_callVi (x := (L.set 8 1).cd.pk) (q := 34) (As := []) C gyX5_pendingKind gvX5_pendingKind t_707 (c_X5_pendingKind_s HL2.2.2.1) dX2_onReceipt_31 rfl HL2.2.2.1.1 rfl rfl rfl (Nat.le_of_ble_eq_true rfl) (Nat.le_of_ble_eq_true rfl) (Nat.le_of_ble_eq_true rfl) (Nat.le_of_ble_eq_true rfl) (Nat.le_of_ble_eq_true rfl) rfl ?_
      have e : rX2_onReceipt_c L x = ((L.set 8 1).cd.pk, (L.set 8 1)) := ((if_neg c_4).trans (if_pos c_22))
      exact E.1 _ _ _ _ _ _ _ dX2_onReceipt_34 rfl rfl (Nat.le_of_ble_eq_true rfl) (Nat.le_of_ble_eq_true rfl) ⟨by rw [e], by rw [e]; exact ⟨HL2, fr2⟩⟩
  ·
    refine g_aload_n (q := 8) C dX2_onReceipt_7 rfl rfl ?_
    refine g_iconst (v := 0) (q := 9) C dX2_onReceipt_8 (by decide) rfl ?_
    refine g_callVi (x := (128 + 16 * L.cd.wa + 0)) (q := 12) (As := [.int 0]) C gyX5_receipt gvX5_receipt t_640 (c_X5_receipt_s HL.2.2.1) dX2_onReceipt_9 rfl HL.2.2.1.1 rfl rfl rfl (Nat.le_of_ble_eq_true rfl) (Nat.le_of_ble_eq_true rfl) (Nat.le_of_ble_eq_true rfl) (Nat.le_of_ble_eq_true rfl) (Nat.le_of_ble_eq_true rfl) rfl ?_
    have e : rX2_onReceipt_c L x = ((128 + 16 * L.cd.wa + 0), L) := (if_pos c_4)
    exact E.1 _ _ _ _ _ _ _ dX2_onReceipt_12 rfl rfl (Nat.le_of_ble_eq_true rfl) (Nat.le_of_ble_eq_true rfl) ⟨by rw [e], by rw [e]; exact ⟨HL, gFL.rf⟩⟩
def rX2_onRequest_c (L : gLn) (x : Int32) : Int32 × gLn := (if (x - 192) = 1 then ((x + 32), (L.side 0 (L.rd.set 2 (gat L.ca 3)))) else ((rX2_refuse_c L).1, (rX2_refuse_c L).2))
set_option maxRecDepth 100000 in
set_option maxHeartbeats 4000000 in
theorem c_X2_onRequest_c_l {hp : List gA} {L : gLn} {x : Int32}  (HL : gLine hp L)  : gM yX2_onRequest cX2_onRequest 5 ((some .int)) 3 62 [.ref 20, .ref 28, .ref 21, .int x] (hp) (0) (0) (fun v h => v = some (.int (rX2_onRequest_c L x).1) ∧ (gLine h (rX2_onRequest_c L x).2 ∧ gFL hp h)) := by
  refine gM_of (ls0 := [some (.ref 20), some (.ref 28), some (.ref 21), some (.int x), none]) (by decide +kernel) (Nat.le_of_ble_eq_true rfl) rfl fun X C E => ?_
  refine g_iload_n (q := 1) C dX2_onRequest_0 rfl rfl ?_
  refine g_sipush (v := 192) (q := 4) C dX2_onRequest_1 (by decide) rfl ?_
  refine g_isub (q := 5) C dX2_onRequest_4 rfl ?_
  refine g_istore (q := 7) C dX2_onRequest_5 (Nat.le_of_ble_eq_true rfl) (by simp only [gset]; rfl) rfl ?_
  refine g_iload (q := 9) C dX2_onRequest_7 rfl rfl ?_
  refine g_iconst (v := 1) (q := 10) C dX2_onRequest_9 (by decide) rfl ?_
  refine g_icmp_ne (t := 30) (q := 13) C dX2_onRequest_10 (by decide) rfl (fun c_10 => ?_) (fun c_10 => ?_)
  ·
    refine g_aload_n (q := 31) C dX2_onRequest_30 rfl rfl ?_
    refine g_aload_n (q := 32) C dX2_onRequest_31 rfl rfl ?_
    refine g_getfield (v := .ref 21) (q := 35) C fX2_14 dX2_onRequest_32 rfl HL.1 rfl ?_
    refine g_acmp_ne (t := 61) (q := 38) C dX2_onRequest_35 (by decide) rfl (fun c_35 => ?_) (fun c_35 => ?_)
    ·
      refine g_aload_n (q := 62) C dX2_onRequest_61 rfl rfl ?_
      refine g_aload_n (q := 63) C dX2_onRequest_62 rfl rfl ?_
      refine g_getfield (v := .ref 21) (q := 66) C fX2_14 dX2_onRequest_63 rfl HL.1 rfl ?_
      refine g_acmp_ne (t := 80) (q := 69) C dX2_onRequest_66 (by decide) rfl (fun c_66 => ?_) (fun c_66 => ?_)
      ·
        refine g_aload_n (q := 81) C dX2_onRequest_80 rfl rfl ?_
        refine g_aload_n (q := 82) C dX2_onRequest_81 rfl rfl ?_
        refine g_callVix (x := (rX2_refuse_c L).1) (q := 85) (As := [.ref 28]) C gyX2_refuse gvX2_refuse t_670 (c_X2_refuse_c_l HL) dX2_onRequest_82 rfl HL.1 rfl rfl rfl (Nat.le_of_ble_eq_true rfl) (Nat.le_of_ble_eq_true rfl) (Nat.le_of_ble_eq_true rfl) (Nat.le_of_ble_eq_true rfl) (Nat.le_of_ble_eq_true rfl) rfl (fun h1 z1 => ?_)
        obtain ⟨HL1, fr1⟩ := z1
        have e : rX2_onRequest_c L x = ((rX2_refuse_c L).1, (rX2_refuse_c L).2) := (if_neg c_10)
        exact E.1 _ _ _ _ _ _ _ dX2_onRequest_85 rfl rfl (Nat.le_of_ble_eq_true rfl) (Nat.le_of_ble_eq_true rfl) ⟨by rw [e], by rw [e]; exact ⟨HL1, fr1⟩⟩
      · exact absurd c_66 (by decide)
    · exact absurd c_35 (by decide)
  ·
    refine g_aload_n (q := 14) C dX2_onRequest_13 rfl rfl ?_
    refine g_aload_n (q := 15) C dX2_onRequest_14 rfl rfl ?_
    refine g_getfield (v := .ref 41) (q := 18) C fX2_55 dX2_onRequest_15 rfl HL.1 rfl ?_
    refine g_iconst (v := 3) (q := 19) C dX2_onRequest_18 (by decide) rfl ?_
    refine g_callVi (x := (gat L.ca 3)) (q := 22) (As := [.int 3]) C gyX4_at gvX4_at t_644 (c_X4_at_w HL.2.2.2.2) dX2_onRequest_19 rfl (gRw.obj HL.2.2.2.2) rfl rfl rfl (Nat.le_of_ble_eq_true rfl) (Nat.le_of_ble_eq_true rfl) (Nat.le_of_ble_eq_true rfl) (Nat.le_of_ble_eq_true rfl) (Nat.le_of_ble_eq_true rfl) rfl ?_
    refine g_putfield (q := 25) C fX2_115 dX2_onRequest_22 rfl HL.2.1.1 (Nat.le_of_ble_eq_true rfl) (Or.inl rfl) rfl rfl (by intro z h; cases h) ?_
    refine gLput_rd (k := 2) (x := (gat L.ca 3)) HL rfl fun h2 HL2 fr2 => ?_
    refine g_iload_n (q := 26) C dX2_onRequest_25 rfl rfl ?_
    refine g_bipush (v := 32) (q := 28) C dX2_onRequest_26 (by decide) rfl ?_
    refine g_iadd (q := 29) C dX2_onRequest_28 rfl ?_
    have e : rX2_onRequest_c L x = ((x + 32), (L.side 0 (L.rd.set 2 (gat L.ca 3)))) := (if_pos c_10)
    exact E.1 _ _ _ _ _ _ _ dX2_onRequest_29 rfl rfl (Nat.le_of_ble_eq_true rfl) (Nat.le_of_ble_eq_true rfl) ⟨by rw [e], by rw [e]; exact ⟨HL2, fr2⟩⟩
def rX2_kindToSend_c (L : gLn) (x : Int32) : Int32 × gLn := (if x = (-2) then (if x = (-2) then (((L.side 1 (L.cd.set 3 0)).cd.cut ((L.side 1 (L.cd.set 3 0)).rd.ro)).pk, ((L.side 1 (L.cd.set 3 0)).side 1 ((L.side 1 (L.cd.set 3 0)).cd.cut ((L.side 1 (L.cd.set 3 0)).rd.ro)))) else (if x = (-3) then (((L.side 1 (L.cd.set 3 0)).cd.cut ((L.side 1 (L.cd.set 3 0)).rd.ro)).pk, ((L.side 1 (L.cd.set 3 0)).side 1 ((L.side 1 (L.cd.set 3 0)).cd.cut ((L.side 1 (L.cd.set 3 0)).rd.ro)))) else (x, (L.side 1 (L.cd.set 3 0))))) else (if x = (-2) then ((L.cd.cut L.rd.ro).pk, (L.side 1 (L.cd.cut L.rd.ro))) else (if x = (-3) then ((L.cd.cut L.rd.ro).pk, (L.side 1 (L.cd.cut L.rd.ro))) else (x, L))))
set_option maxRecDepth 100000 in
set_option maxHeartbeats 4000000 in
theorem c_X2_kindToSend_c_l {hp : List gA} {L : gLn} {x : Int32}  (HL : gLine hp L)  : gM yX2_kindToSend cX2_kindToSend 3 ((some .int)) 2 43 [.ref 28, .ref 21, .int x] (hp) (0) (0) (fun v h => v = some (.int (rX2_kindToSend_c L x).1) ∧ (gLine h (rX2_kindToSend_c L x).2 ∧ gFL hp h)) := by
  refine gM_of (ls0 := [some (.ref 28), some (.ref 21), some (.int x)]) (by decide +kernel) (Nat.le_of_ble_eq_true rfl) rfl fun X C E => ?_
  refine g_iload_n (q := 1) C dX2_kindToSend_0 rfl rfl ?_
  refine g_bipush (v := (-2)) (q := 3) C dX2_kindToSend_1 (by decide) rfl ?_
  refine g_icmp_ne (t := 11) (q := 6) C dX2_kindToSend_3 (by decide) rfl (fun c_3 => ?_) (fun c_3 => ?_)
  ·
    refine g_iload_n (q := 12) C dX2_kindToSend_11 rfl rfl ?_
    refine g_bipush (v := (-2)) (q := 14) C dX2_kindToSend_12 (by decide) rfl ?_
    refine g_icmp_eq (t := 23) (q := 17) C dX2_kindToSend_14 (by decide) rfl (fun c_14 => ?_) (fun c_14 => ?_)
    ·
      refine g_aload_n (q := 24) C dX2_kindToSend_23 rfl rfl ?_
      refine g_aload_n (q := 25) C dX2_kindToSend_24 rfl rfl ?_
      refine g_getfield (v := .int L.rd.ro) (q := 28) C fX2_115 dX2_kindToSend_25 rfl HL.2.1.1 rfl ?_
      refine g_callVix (x := (L.cd.cut L.rd.ro).pk) (q := 31) (As := [.int L.rd.ro]) C gyX5_cutNext gvX5_cutNext t_722 (c_X5_cutNext_s HL.2.2.1) dX2_kindToSend_28 rfl HL.2.2.1.1 rfl rfl rfl (Nat.le_of_ble_eq_true rfl) (Nat.le_of_ble_eq_true rfl) (Nat.le_of_ble_eq_true rfl) (Nat.le_of_ble_eq_true rfl) (Nat.le_of_ble_eq_true rfl) rfl (fun h1 z1 => ?_)
      obtain ⟨HL1, fr1⟩ := gLine.cd_ HL z1
      refine g_goto (q := 35) C dX2_kindToSend_31 (by decide) ?_
      have e : rX2_kindToSend_c L x = ((L.cd.cut L.rd.ro).pk, (L.side 1 (L.cd.cut L.rd.ro))) := ((if_neg c_3).trans (if_pos c_14))
      exact E.1 _ _ _ _ _ _ _ dX2_kindToSend_35 rfl rfl (Nat.le_of_ble_eq_true rfl) (Nat.le_of_ble_eq_true rfl) ⟨by rw [e], by rw [e]; exact ⟨HL1, fr1⟩⟩
    ·
      refine g_iload_n (q := 18) C dX2_kindToSend_17 rfl rfl ?_
      refine g_bipush (v := (-3)) (q := 20) C dX2_kindToSend_18 (by decide) rfl ?_
      refine g_icmp_ne (t := 34) (q := 23) C dX2_kindToSend_20 (by decide) rfl (fun c_20 => ?_) (fun c_20 => ?_)
      ·
        refine g_iload_n (q := 35) C dX2_kindToSend_34 rfl rfl ?_
        have e : rX2_kindToSend_c L x = (x, L) := ((if_neg c_3).trans ((if_neg c_14).trans (if_neg c_20)))
        exact E.1 _ _ _ _ _ _ _ dX2_kindToSend_35 rfl rfl (Nat.le_of_ble_eq_true rfl) (Nat.le_of_ble_eq_true rfl) ⟨by rw [e], by rw [e]; exact ⟨HL, gFL.rf⟩⟩
      ·
        refine g_aload_n (q := 24) C dX2_kindToSend_23 rfl rfl ?_
        refine g_aload_n (q := 25) C dX2_kindToSend_24 rfl rfl ?_
        refine g_getfield (v := .int L.rd.ro) (q := 28) C fX2_115 dX2_kindToSend_25 rfl HL.2.1.1 rfl ?_
        refine g_callVix (x := (L.cd.cut L.rd.ro).pk) (q := 31) (As := [.int L.rd.ro]) C gyX5_cutNext gvX5_cutNext t_722 (c_X5_cutNext_s HL.2.2.1) dX2_kindToSend_28 rfl HL.2.2.1.1 rfl rfl rfl (Nat.le_of_ble_eq_true rfl) (Nat.le_of_ble_eq_true rfl) (Nat.le_of_ble_eq_true rfl) (Nat.le_of_ble_eq_true rfl) (Nat.le_of_ble_eq_true rfl) rfl (fun h2 z2 => ?_)
        obtain ⟨HL2, fr2⟩ := gLine.cd_ HL z2
        refine g_goto (q := 35) C dX2_kindToSend_31 (by decide) ?_
        have e : rX2_kindToSend_c L x = ((L.cd.cut L.rd.ro).pk, (L.side 1 (L.cd.cut L.rd.ro))) := ((if_neg c_3).trans ((if_neg c_14).trans (if_pos c_20)))
        exact E.1 _ _ _ _ _ _ _ dX2_kindToSend_35 rfl rfl (Nat.le_of_ble_eq_true rfl) (Nat.le_of_ble_eq_true rfl) ⟨by rw [e], by rw [e]; exact ⟨HL2, fr2⟩⟩
  ·
    refine g_aload_n (q := 7) C dX2_kindToSend_6 rfl rfl ?_
    refine g_iconst (v := 0) (q := 8) C dX2_kindToSend_7 (by decide) rfl ?_
    refine g_putfield (q := 11) C fX2_105 dX2_kindToSend_8 rfl HL.2.2.1.1 (Nat.le_of_ble_eq_true rfl) (Or.inl rfl) rfl rfl (by intro z h; cases h) ?_
    refine gLput_cd (k := 3) (x := 0) HL rfl fun h3 HL3 fr3 => ?_
    refine g_iload_n (q := 12) C dX2_kindToSend_11 rfl rfl ?_
    refine g_bipush (v := (-2)) (q := 14) C dX2_kindToSend_12 (by decide) rfl ?_
    refine g_icmp_eq (t := 23) (q := 17) C dX2_kindToSend_14 (by decide) rfl (fun c_14 => ?_) (fun c_14 => ?_)
    ·
      refine g_aload_n (q := 24) C dX2_kindToSend_23 rfl rfl ?_
      refine g_aload_n (q := 25) C dX2_kindToSend_24 rfl rfl ?_
      refine g_getfield (v := .int ((L.side 1 (L.cd.set 3 0)).rd.ro)) (q := 28) C fX2_115 dX2_kindToSend_25 rfl HL3.2.1.1 rfl ?_
      refine g_callVix (x := ((L.side 1 (L.cd.set 3 0)).cd.cut ((L.side 1 (L.cd.set 3 0)).rd.ro)).pk) (q := 31) (As := [.int ((L.side 1 (L.cd.set 3 0)).rd.ro)]) C gyX5_cutNext gvX5_cutNext t_722 (c_X5_cutNext_s HL3.2.2.1) dX2_kindToSend_28 rfl HL3.2.2.1.1 rfl rfl rfl (Nat.le_of_ble_eq_true rfl) (Nat.le_of_ble_eq_true rfl) (Nat.le_of_ble_eq_true rfl) (Nat.le_of_ble_eq_true rfl) (Nat.le_of_ble_eq_true rfl) rfl (fun h4 z4 => ?_)
      obtain ⟨HL4, fr4⟩ := gLine.cd_ HL3 z4
      refine g_goto (q := 35) C dX2_kindToSend_31 (by decide) ?_
      have e : rX2_kindToSend_c L x = (((L.side 1 (L.cd.set 3 0)).cd.cut ((L.side 1 (L.cd.set 3 0)).rd.ro)).pk, ((L.side 1 (L.cd.set 3 0)).side 1 ((L.side 1 (L.cd.set 3 0)).cd.cut ((L.side 1 (L.cd.set 3 0)).rd.ro)))) := ((if_pos c_3).trans (if_pos c_14))
      exact E.1 _ _ _ _ _ _ _ dX2_kindToSend_35 rfl rfl (Nat.le_of_ble_eq_true rfl) (Nat.le_of_ble_eq_true rfl) ⟨by rw [e], by rw [e]; exact ⟨HL4, (gFL.trans fr3 fr4)⟩⟩
    ·
      refine g_iload_n (q := 18) C dX2_kindToSend_17 rfl rfl ?_
      refine g_bipush (v := (-3)) (q := 20) C dX2_kindToSend_18 (by decide) rfl ?_
      refine g_icmp_ne (t := 34) (q := 23) C dX2_kindToSend_20 (by decide) rfl (fun c_20 => ?_) (fun c_20 => ?_)
      ·
        refine g_iload_n (q := 35) C dX2_kindToSend_34 rfl rfl ?_
        have e : rX2_kindToSend_c L x = (x, (L.side 1 (L.cd.set 3 0))) := ((if_pos c_3).trans ((if_neg c_14).trans (if_neg c_20)))
        exact E.1 _ _ _ _ _ _ _ dX2_kindToSend_35 rfl rfl (Nat.le_of_ble_eq_true rfl) (Nat.le_of_ble_eq_true rfl) ⟨by rw [e], by rw [e]; exact ⟨HL3, fr3⟩⟩
      ·
        refine g_aload_n (q := 24) C dX2_kindToSend_23 rfl rfl ?_
        refine g_aload_n (q := 25) C dX2_kindToSend_24 rfl rfl ?_
        refine g_getfield (v := .int ((L.side 1 (L.cd.set 3 0)).rd.ro)) (q := 28) C fX2_115 dX2_kindToSend_25 rfl HL3.2.1.1 rfl ?_
        refine g_callVix (x := ((L.side 1 (L.cd.set 3 0)).cd.cut ((L.side 1 (L.cd.set 3 0)).rd.ro)).pk) (q := 31) (As := [.int ((L.side 1 (L.cd.set 3 0)).rd.ro)]) C gyX5_cutNext gvX5_cutNext t_722 (c_X5_cutNext_s HL3.2.2.1) dX2_kindToSend_28 rfl HL3.2.2.1.1 rfl rfl rfl (Nat.le_of_ble_eq_true rfl) (Nat.le_of_ble_eq_true rfl) (Nat.le_of_ble_eq_true rfl) (Nat.le_of_ble_eq_true rfl) (Nat.le_of_ble_eq_true rfl) rfl (fun h5 z5 => ?_)
        obtain ⟨HL5, fr5⟩ := gLine.cd_ HL3 z5
        refine g_goto (q := 35) C dX2_kindToSend_31 (by decide) ?_
        have e : rX2_kindToSend_c L x = (((L.side 1 (L.cd.set 3 0)).cd.cut ((L.side 1 (L.cd.set 3 0)).rd.ro)).pk, ((L.side 1 (L.cd.set 3 0)).side 1 ((L.side 1 (L.cd.set 3 0)).cd.cut ((L.side 1 (L.cd.set 3 0)).rd.ro)))) := ((if_pos c_3).trans ((if_neg c_14).trans (if_pos c_20)))
        exact E.1 _ _ _ _ _ _ _ dX2_kindToSend_35 rfl rfl (Nat.le_of_ble_eq_true rfl) (Nat.le_of_ble_eq_true rfl) ⟨by rw [e], by rw [e]; exact ⟨HL5, (gFL.trans fr3 fr5)⟩⟩
def rX2_hasInf  (x : Int32) : Int32 := (if x < 192 then 0 else (if (x &&& 1) = 1 then 1 else 0))
theorem dX2_hasInf_0 : decode cX2_hasInf 0 = .ok (.iload_n 0, 1) := by decide +kernel
theorem dX2_hasInf_1 : decode cX2_hasInf 1 = .ok (.sipush 192, 3) := by decide +kernel
theorem dX2_hasInf_4 : decode cX2_hasInf 4 = .ok (.if_icmp .lt 14, 3) := by decide +kernel
theorem dX2_hasInf_7 : decode cX2_hasInf 7 = .ok (.iload_n 0, 1) := by decide +kernel
theorem dX2_hasInf_8 : decode cX2_hasInf 8 = .ok (.iconst 1, 1) := by decide +kernel
theorem dX2_hasInf_9 : decode cX2_hasInf 9 = .ok (.iand, 1) := by decide +kernel
theorem dX2_hasInf_10 : decode cX2_hasInf 10 = .ok (.iconst 1, 1) := by decide +kernel
theorem dX2_hasInf_11 : decode cX2_hasInf 11 = .ok (.if_icmp .ne 7, 3) := by decide +kernel
theorem dX2_hasInf_14 : decode cX2_hasInf 14 = .ok (.iconst 1, 1) := by decide +kernel
theorem dX2_hasInf_15 : decode cX2_hasInf 15 = .ok (.goto 4, 3) := by decide +kernel
theorem dX2_hasInf_18 : decode cX2_hasInf 18 = .ok (.iconst 0, 1) := by decide +kernel
theorem dX2_hasInf_19 : decode cX2_hasInf 19 = .ok (.ireturn, 1) := by decide +kernel
set_option maxRecDepth 100000 in
set_option maxHeartbeats 4000000 in
theorem c_X2_hasInf_l {hp : List gA}  {x : Int32}   : gM yX2_hasInf cX2_hasInf 1 ((some .boolean)) 0 0 [.int x] (hp) (0) (0) (fun v h => v = some (.int (rX2_hasInf x)) ∧ h = hp) := by
  refine gM_of (ls0 := [some (.int x)]) (by decide +kernel) (Nat.le_of_ble_eq_true rfl) rfl fun X C E => ?_
  refine g_iload_n (q := 1) C dX2_hasInf_0 rfl rfl ?_
  refine g_sipush (v := 192) (q := 4) C dX2_hasInf_1 (by decide) rfl ?_
  refine g_icmp_lt (t := 18) (q := 7) C dX2_hasInf_4 (by decide) rfl (fun c_4 => ?_) (fun c_4 => ?_)
  ·
    refine g_iconst (v := 0) (q := 19) C dX2_hasInf_18 (by decide) rfl ?_
    have e : rX2_hasInf x = (0) := (if_pos c_4)
    exact E.1 _ _ _ _ _ _ _ dX2_hasInf_19 rfl rfl (Nat.le_of_ble_eq_true rfl) (Nat.le_of_ble_eq_true rfl) ⟨by rw [e], rfl⟩
  ·
    refine g_iload_n (q := 8) C dX2_hasInf_7 rfl rfl ?_
    refine g_iconst (v := 1) (q := 9) C dX2_hasInf_8 (by decide) rfl ?_
    refine g_iand (q := 10) C dX2_hasInf_9 rfl ?_
    refine g_iconst (v := 1) (q := 11) C dX2_hasInf_10 (by decide) rfl ?_
    refine g_icmp_ne (t := 18) (q := 14) C dX2_hasInf_11 (by decide) rfl (fun c_11 => ?_) (fun c_11 => ?_)
    ·
      refine g_iconst (v := 0) (q := 19) C dX2_hasInf_18 (by decide) rfl ?_
      have e : rX2_hasInf x = (0) := ((if_neg c_4).trans (if_neg c_11))
      exact E.1 _ _ _ _ _ _ _ dX2_hasInf_19 rfl rfl (Nat.le_of_ble_eq_true rfl) (Nat.le_of_ble_eq_true rfl) ⟨by rw [e], rfl⟩
    ·
      refine g_iconst (v := 1) (q := 15) C dX2_hasInf_14 (by decide) rfl ?_
      refine g_goto (q := 19) C dX2_hasInf_15 (by decide) ?_
      have e : rX2_hasInf x = (1) := ((if_neg c_4).trans (if_pos c_11))
      exact E.1 _ _ _ _ _ _ _ dX2_hasInf_19 rfl rfl (Nat.le_of_ble_eq_true rfl) (Nat.le_of_ble_eq_true rfl) ⟨by rw [e], rfl⟩
