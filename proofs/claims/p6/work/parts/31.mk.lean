/-! the reference: plans (by program: wip/p2/m_mk.py) -/
/-- what a block that is sent wants -/
def gSk (M : gMd) (x n : Int32) (l : Nat) (E : List (Int32 × List Int32)) : Prop := gSr M ∧ gIr x 255 ∧ gIr n 60 ∧ (∀ q, q < n.toNatClampNeg → gIr (M.a 14 q) 255) ∧ M.a 4 423 = nI l ∧ l < 1000000000 ∧ (M.f 19 = 0 → gUn M E ∧ gLg M ∧ E.length < 8192 ∧ gOf E E.length + 64 ≤ 131072)
def gSh (sd : Nat) (M : gMd) : Int32 := if sd = 0 then rX8_isShaped_1 M else rX8_isShaped_0 M
/-- a plan done: nothing sent, or a block -/
def gDo (sd : Nat) (P : gMd × Option (Int32 × Int32)) (l : Nat) (E : List (Int32 × List Int32)) (M' : gMd) (E' : List (Int32 × List Int32)) : Prop :=
  match P.2 with
  | none => M' = P.1 ∧ E' = E
  | some (x, n) => gSn P.1 sd x n.toNatClampNeg l E M' E' (gSh sd M')
theorem c_X8_sends_0_p {hp : List gA} {M : gMd} {x n : Int32} {l : Nat} {E : List (Int32 × List Int32)} (HM : gMod hp M) (ok : gSk M x n l E) : gM yX8_sends cX8_sends 7 (none) 3 69 [.ref 122, .int 0, .int x, .int n] (hp) (0) (0) (fun v h => v = none ∧ ∃ M' E', gMod h M' ∧ gFM hp h ∧ gDo 0 (M, some (x, n)) l E M' E') := by
  obtain ⟨R, hx, ⟨m, hm, rfl⟩, hI, hl, hlb, UU⟩ := ok
  rw [nI_clamp (by omega)] at hI
  have z := c_X8_sends_0_r HM R hx hm hI hl hlb UU
  have e : ∀ M' E', gSn M 0 x m l E M' E' (rX8_isShaped_1 M') = gDo 0 (M, some (x, nI m)) l E M' E' := fun M' E' => by
    show _ = gSn M 0 x (nI m).toNatClampNeg l E M' E' (rX8_isShaped_1 M')
    rw [nI_clamp (by omega)]
  simp only [e] at z
  exact z
theorem c_X8_sends_1_p {hp : List gA} {M : gMd} {x n : Int32} {l : Nat} {E : List (Int32 × List Int32)} (HM : gMod hp M) (ok : gSk M x n l E) : gM yX8_sends cX8_sends 7 (none) 3 69 [.ref 122, .int 1, .int x, .int n] (hp) (0) (0) (fun v h => v = none ∧ ∃ M' E', gMod h M' ∧ gFM hp h ∧ gDo 1 (M, some (x, n)) l E M' E') := by
  obtain ⟨R, hx, ⟨m, hm, rfl⟩, hI, hl, hlb, UU⟩ := ok
  rw [nI_clamp (by omega)] at hI
  have z := c_X8_sends_1_r HM R hx hm hI hl hlb UU
  have e : ∀ M' E', gSn M 1 x m l E M' E' (rX8_isShaped_0 M') = gDo 1 (M, some (x, nI m)) l E M' E' := fun M' E' => by
    show _ = gSn M 1 x (nI m).toNatClampNeg l E M' E' (rX8_isShaped_0 M')
    rw [nI_clamp (by omega)]
  simp only [e] at z
  exact z
def pX8_sendsR_0 (M : gMd) (y : Int32) : gMd × Option (Int32 × Int32) := (M, some (((128 + (16 * (M.a 4 1))) + y), 0))
def oX8_sendsR_0 (M : gMd) (y : Int32) (l : Nat) (E : List (Int32 × List Int32)) : Prop := gSk M ((128 + (16 * (M.a 4 1))) + y) 0 l E
theorem dX8_sendsR_0 : decode cX8_sendsR 0 = .ok (.aload_n 0, 1) := by decide +kernel
theorem dX8_sendsR_1 : decode cX8_sendsR 1 = .ok (.iload_n 1, 1) := by decide +kernel
theorem dX8_sendsR_2 : decode cX8_sendsR 2 = .ok (.sipush 128, 3) := by decide +kernel
theorem dX8_sendsR_5 : decode cX8_sendsR 5 = .ok (.bipush 16, 2) := by decide +kernel
theorem dX8_sendsR_7 : decode cX8_sendsR 7 = .ok (.aload_n 0, 1) := by decide +kernel
theorem dX8_sendsR_8 : decode cX8_sendsR 8 = .ok (.getfield 22, 3) := by decide +kernel
theorem dX8_sendsR_11 : decode cX8_sendsR 11 = .ok (.bipush 16, 2) := by decide +kernel
theorem dX8_sendsR_13 : decode cX8_sendsR 13 = .ok (.iload_n 1, 1) := by decide +kernel
theorem dX8_sendsR_14 : decode cX8_sendsR 14 = .ok (.imul, 1) := by decide +kernel
theorem dX8_sendsR_15 : decode cX8_sendsR 15 = .ok (.iconst 1, 1) := by decide +kernel
theorem dX8_sendsR_16 : decode cX8_sendsR 16 = .ok (.iadd, 1) := by decide +kernel
theorem dX8_sendsR_17 : decode cX8_sendsR 17 = .ok (.iaload, 1) := by decide +kernel
theorem dX8_sendsR_18 : decode cX8_sendsR 18 = .ok (.imul, 1) := by decide +kernel
theorem dX8_sendsR_19 : decode cX8_sendsR 19 = .ok (.iadd, 1) := by decide +kernel
theorem dX8_sendsR_20 : decode cX8_sendsR 20 = .ok (.iload_n 2, 1) := by decide +kernel
theorem dX8_sendsR_21 : decode cX8_sendsR 21 = .ok (.iadd, 1) := by decide +kernel
theorem dX8_sendsR_22 : decode cX8_sendsR 22 = .ok (.iconst 0, 1) := by decide +kernel
theorem dX8_sendsR_23 : decode cX8_sendsR 23 = .ok (.invokevirtual 198, 3) := by decide +kernel
theorem dX8_sendsR_26 : decode cX8_sendsR 26 = .ok (.return_, 1) := by decide +kernel
set_option maxRecDepth 100000 in
set_option maxHeartbeats 4000000 in
theorem c_X8_sendsR_0_p {hp : List gA} {M : gMd} {y : Int32} {l : Nat} {E : List (Int32 × List Int32)}  (HM : gMod hp M) (ok : oX8_sendsR_0 M y l E)  : gM yX8_sendsR cX8_sendsR 3 (none) 4 95 [.ref 122, .int 0, .int y] (hp) (0) (0) (fun v h => v = none ∧ ∃ M' E', gMod h M' ∧ gFM hp h ∧ gDo 0 (pX8_sendsR_0 M y) l E M' E') := by
  refine gM_of (ls0 := [some (.ref 122), some (.int 0), some (.int y)]) (by decide +kernel) (Nat.le_of_ble_eq_true rfl) rfl fun X C E9 => ?_
  obtain ⟨P, ep⟩ : ∃ P, P = pX8_sendsR_0 M y := ⟨_, rfl⟩
  rw [← ep] at E9
  unfold pX8_sendsR_0 at ep
  unfold oX8_sendsR_0 at ok
  refine g_aload_n (q := 1) C dX8_sendsR_0 rfl rfl ?_
  refine g_iload_n (q := 2) C dX8_sendsR_1 rfl rfl ?_
  refine g_sipush (v := 128) (q := 5) C dX8_sendsR_2 (by decide) rfl ?_
  refine g_bipush (v := 16) (q := 7) C dX8_sendsR_5 (by decide) rfl ?_
  refine g_aload_n (q := 8) C dX8_sendsR_7 rfl rfl ?_
  refine g_getfield (v := .ref 127) (q := 11) C fX8_22 dX8_sendsR_8 rfl HM.1 rfl ?_
  refine g_bipush (v := 16) (q := 13) C dX8_sendsR_11 (by decide) rfl ?_
  refine g_iload_n (q := 14) C dX8_sendsR_13 rfl rfl ?_
  refine g_imul (q := 15) C dX8_sendsR_14 rfl ?_
  refine g_iconst (v := 1) (q := 16) C dX8_sendsR_15 (by decide) rfl ?_
  refine g_iadd (q := 17) C dX8_sendsR_16 rfl ?_
  refine g_ialoadN (x := (M.a 4 1)) (j := 1) (q := 18) C dX8_sendsR_17 rfl (HM.ar (i := 4) (n := 772) (by decide) rfl) (pk_in 1 772 (by decide)) (pk_cl 1) rfl ?_
  refine g_imul (q := 19) C dX8_sendsR_18 rfl ?_
  refine g_iadd (q := 20) C dX8_sendsR_19 rfl ?_
  refine g_iload_n (q := 21) C dX8_sendsR_20 rfl rfl ?_
  refine g_iadd (q := 22) C dX8_sendsR_21 rfl ?_
  refine g_iconst (v := 0) (q := 23) C dX8_sendsR_22 (by decide) rfl ?_
  refine g_callVvp (q := 26) (As := [.int 0, .int (((128 + (16 * (M.a 4 1))) + y)), .int 0]) C gyX8_sends gvX8_sends t_1312 (c_X8_sends_0_p HM ok) dX8_sendsR_23 rfl HM.1 rfl rfl rfl (Nat.le_of_ble_eq_true rfl) (Nat.le_of_ble_eq_true rfl) (Nat.le_of_ble_eq_true rfl) (Nat.le_of_ble_eq_true rfl) (Nat.le_of_ble_eq_true rfl) rfl (fun h1 z1 => ?_)
  obtain ⟨M', E', HM', frs, dd⟩ := z1
  exact E9.2.1 _ _ _ _ _ dX8_sendsR_26 rfl (Nat.le_of_ble_eq_true rfl) (Nat.le_of_ble_eq_true rfl) ⟨rfl, _, _, HM', frs, by rw [ep]; exact dd⟩
def pX8_sendsAsked_0 (M : gMd) : gMd × Option (Int32 × Int32) := (if (M.a 4 9) = 1 then ((M.put 14 0 (M.a 4 10)), some ((192 + (M.a 4 9)), 1)) else ((M.put 14 0 (M.a 4 10)), some ((192 + (M.a 4 9)), (if (M.a 4 9) = 3 then 1 else 0 : Int32))))
def oX8_sendsAsked_0 (M : gMd) (l : Nat) (E : List (Int32 × List Int32)) : Prop := (if (M.a 4 9) = 1 then gSk (M.put 14 0 (M.a 4 10)) (192 + (M.a 4 9)) 1 l E else gSk (M.put 14 0 (M.a 4 10)) (192 + (M.a 4 9)) (if (M.a 4 9) = 3 then 1 else 0 : Int32) l E)
theorem dX8_sendsAsked_0 : decode cX8_sendsAsked 0 = .ok (.aload_n 0, 1) := by decide +kernel
theorem dX8_sendsAsked_1 : decode cX8_sendsAsked 1 = .ok (.getfield 22, 3) := by decide +kernel
theorem dX8_sendsAsked_4 : decode cX8_sendsAsked 4 = .ok (.bipush 16, 2) := by decide +kernel
theorem dX8_sendsAsked_6 : decode cX8_sendsAsked 6 = .ok (.iload_n 1, 1) := by decide +kernel
theorem dX8_sendsAsked_7 : decode cX8_sendsAsked 7 = .ok (.imul, 1) := by decide +kernel
theorem dX8_sendsAsked_8 : decode cX8_sendsAsked 8 = .ok (.bipush 9, 2) := by decide +kernel
theorem dX8_sendsAsked_10 : decode cX8_sendsAsked 10 = .ok (.iadd, 1) := by decide +kernel
theorem dX8_sendsAsked_11 : decode cX8_sendsAsked 11 = .ok (.iaload, 1) := by decide +kernel
theorem dX8_sendsAsked_12 : decode cX8_sendsAsked 12 = .ok (.istore_n 2, 1) := by decide +kernel
theorem dX8_sendsAsked_13 : decode cX8_sendsAsked 13 = .ok (.aload_n 0, 1) := by decide +kernel
theorem dX8_sendsAsked_14 : decode cX8_sendsAsked 14 = .ok (.getfield 57, 3) := by decide +kernel
theorem dX8_sendsAsked_17 : decode cX8_sendsAsked 17 = .ok (.iconst 0, 1) := by decide +kernel
theorem dX8_sendsAsked_18 : decode cX8_sendsAsked 18 = .ok (.aload_n 0, 1) := by decide +kernel
theorem dX8_sendsAsked_19 : decode cX8_sendsAsked 19 = .ok (.getfield 22, 3) := by decide +kernel
theorem dX8_sendsAsked_22 : decode cX8_sendsAsked 22 = .ok (.bipush 16, 2) := by decide +kernel
theorem dX8_sendsAsked_24 : decode cX8_sendsAsked 24 = .ok (.iload_n 1, 1) := by decide +kernel
theorem dX8_sendsAsked_25 : decode cX8_sendsAsked 25 = .ok (.imul, 1) := by decide +kernel
theorem dX8_sendsAsked_26 : decode cX8_sendsAsked 26 = .ok (.bipush 10, 2) := by decide +kernel
theorem dX8_sendsAsked_28 : decode cX8_sendsAsked 28 = .ok (.iadd, 1) := by decide +kernel
theorem dX8_sendsAsked_29 : decode cX8_sendsAsked 29 = .ok (.iaload, 1) := by decide +kernel
theorem dX8_sendsAsked_30 : decode cX8_sendsAsked 30 = .ok (.iastore, 1) := by decide +kernel
theorem dX8_sendsAsked_31 : decode cX8_sendsAsked 31 = .ok (.aload_n 0, 1) := by decide +kernel
theorem dX8_sendsAsked_32 : decode cX8_sendsAsked 32 = .ok (.iload_n 1, 1) := by decide +kernel
theorem dX8_sendsAsked_33 : decode cX8_sendsAsked 33 = .ok (.sipush 192, 3) := by decide +kernel
theorem dX8_sendsAsked_36 : decode cX8_sendsAsked 36 = .ok (.iload_n 2, 1) := by decide +kernel
theorem dX8_sendsAsked_37 : decode cX8_sendsAsked 37 = .ok (.iadd, 1) := by decide +kernel
theorem dX8_sendsAsked_38 : decode cX8_sendsAsked 38 = .ok (.iload_n 2, 1) := by decide +kernel
theorem dX8_sendsAsked_39 : decode cX8_sendsAsked 39 = .ok (.iconst 1, 1) := by decide +kernel
theorem dX8_sendsAsked_40 : decode cX8_sendsAsked 40 = .ok (.if_icmp .eq 8, 3) := by decide +kernel
theorem dX8_sendsAsked_43 : decode cX8_sendsAsked 43 = .ok (.iload_n 2, 1) := by decide +kernel
theorem dX8_sendsAsked_44 : decode cX8_sendsAsked 44 = .ok (.iconst 3, 1) := by decide +kernel
theorem dX8_sendsAsked_45 : decode cX8_sendsAsked 45 = .ok (.if_icmp .ne 7, 3) := by decide +kernel
theorem dX8_sendsAsked_48 : decode cX8_sendsAsked 48 = .ok (.iconst 1, 1) := by decide +kernel
theorem dX8_sendsAsked_49 : decode cX8_sendsAsked 49 = .ok (.goto 4, 3) := by decide +kernel
theorem dX8_sendsAsked_52 : decode cX8_sendsAsked 52 = .ok (.iconst 0, 1) := by decide +kernel
theorem dX8_sendsAsked_53 : decode cX8_sendsAsked 53 = .ok (.invokevirtual 198, 3) := by decide +kernel
theorem dX8_sendsAsked_56 : decode cX8_sendsAsked 56 = .ok (.return_, 1) := by decide +kernel
set_option maxRecDepth 100000 in
set_option maxHeartbeats 4000000 in
theorem c_X8_sendsAsked_0_p {hp : List gA} {M : gMd} {l : Nat} {E : List (Int32 × List Int32)}  (HM : gMod hp M) (ok : oX8_sendsAsked_0 M l E)  : gM yX8_sendsAsked cX8_sendsAsked 3 (none) 4 95 [.ref 122, .int 0] (hp) (0) (0) (fun v h => v = none ∧ ∃ M' E', gMod h M' ∧ gFM hp h ∧ gDo 0 (pX8_sendsAsked_0 M) l E M' E') := by
  refine gM_of (ls0 := [some (.ref 122), some (.int 0), none]) (by decide +kernel) (Nat.le_of_ble_eq_true rfl) rfl fun X C E9 => ?_
  obtain ⟨P, ep⟩ : ∃ P, P = pX8_sendsAsked_0 M := ⟨_, rfl⟩
  rw [← ep] at E9
  unfold pX8_sendsAsked_0 at ep
  unfold oX8_sendsAsked_0 at ok
  refine g_aload_n (q := 1) C dX8_sendsAsked_0 rfl rfl ?_
  refine g_getfield (v := .ref 127) (q := 4) C fX8_22 dX8_sendsAsked_1 rfl HM.1 rfl ?_
  refine g_bipush (v := 16) (q := 6) C dX8_sendsAsked_4 (by decide) rfl ?_
  refine g_iload_n (q := 7) C dX8_sendsAsked_6 rfl rfl ?_
  refine g_imul (q := 8) C dX8_sendsAsked_7 rfl ?_
  refine g_bipush (v := 9) (q := 10) C dX8_sendsAsked_8 (by decide) rfl ?_
  refine g_iadd (q := 11) C dX8_sendsAsked_10 rfl ?_
  refine g_ialoadN (x := (M.a 4 9)) (j := 9) (q := 12) C dX8_sendsAsked_11 rfl (HM.ar (i := 4) (n := 772) (by decide) rfl) (pk_in 9 772 (by decide)) (pk_cl 9) rfl ?_
  refine g_istore_n (q := 13) C dX8_sendsAsked_12 (Nat.le_of_ble_eq_true rfl) (by simp only [gset]; rfl) rfl ?_
  refine g_aload_n (q := 14) C dX8_sendsAsked_13 rfl rfl ?_
  refine g_getfield (v := .ref 137) (q := 17) C fX8_57 dX8_sendsAsked_14 rfl HM.1 rfl ?_
  refine g_iconst (v := 0) (q := 18) C dX8_sendsAsked_17 (by decide) rfl ?_
  refine g_aload_n (q := 19) C dX8_sendsAsked_18 rfl rfl ?_
  refine g_getfield (v := .ref 127) (q := 22) C fX8_22 dX8_sendsAsked_19 rfl HM.1 rfl ?_
  refine g_bipush (v := 16) (q := 24) C dX8_sendsAsked_22 (by decide) rfl ?_
  refine g_iload_n (q := 25) C dX8_sendsAsked_24 rfl rfl ?_
  refine g_imul (q := 26) C dX8_sendsAsked_25 rfl ?_
  refine g_bipush (v := 10) (q := 28) C dX8_sendsAsked_26 (by decide) rfl ?_
  refine g_iadd (q := 29) C dX8_sendsAsked_28 rfl ?_
  refine g_ialoadN (x := (M.a 4 10)) (j := 10) (q := 30) C dX8_sendsAsked_29 rfl (HM.ar (i := 4) (n := 772) (by decide) rfl) (pk_in 10 772 (by decide)) (pk_cl 10) rfl ?_
  refine g_iastoreN (j := 0) (q := 31) C dX8_sendsAsked_30 rfl (HM.ar (i := 14) (n := 256) (by decide) rfl) (pk_in 0 256 (by decide)) (pk_cl 0) ?_
  refine gMsto (i := 14) (j := 0) (x := (M.a 4 10)) HM (by decide) rfl rfl fun h1 HL1 fr1 => ?_
  refine g_aload_n (q := 32) C dX8_sendsAsked_31 rfl rfl ?_
  refine g_iload_n (q := 33) C dX8_sendsAsked_32 rfl rfl ?_
  refine g_sipush (v := 192) (q := 36) C dX8_sendsAsked_33 (by decide) rfl ?_
  refine g_iload_n (q := 37) C dX8_sendsAsked_36 rfl rfl ?_
  refine g_iadd (q := 38) C dX8_sendsAsked_37 rfl ?_
  refine g_iload_n (q := 39) C dX8_sendsAsked_38 rfl rfl ?_
  refine g_iconst (v := 1) (q := 40) C dX8_sendsAsked_39 (by decide) rfl ?_
  refine g_icmp_eq (t := 48) (q := 43) C dX8_sendsAsked_40 (by decide) rfl (fun c_40 => ?_) (fun c_40 => ?_)
  ·
    rw [if_pos c_40] at ok ep
    refine g_iconst (v := 1) (q := 49) C dX8_sendsAsked_48 (by decide) rfl ?_
    refine g_goto (q := 53) C dX8_sendsAsked_49 (by decide) ?_
    refine g_callVvp (q := 56) (As := [.int 0, .int ((192 + (M.a 4 9))), .int 1]) C gyX8_sends gvX8_sends t_1312 (c_X8_sends_0_p HL1 ok) dX8_sendsAsked_53 rfl HL1.1 rfl rfl rfl (Nat.le_of_ble_eq_true rfl) (Nat.le_of_ble_eq_true rfl) (Nat.le_of_ble_eq_true rfl) (Nat.le_of_ble_eq_true rfl) (Nat.le_of_ble_eq_true rfl) rfl (fun h2 z2 => ?_)
    obtain ⟨M', E', HM', frs, dd⟩ := z2
    exact E9.2.1 _ _ _ _ _ dX8_sendsAsked_56 rfl (Nat.le_of_ble_eq_true rfl) (Nat.le_of_ble_eq_true rfl) ⟨rfl, _, _, HM', (gFM.trans fr1 frs), by rw [ep]; exact dd⟩
  ·
    rw [if_neg c_40] at ok ep
    refine g_iload_n (q := 44) C dX8_sendsAsked_43 rfl rfl ?_
    refine g_iconst (v := 3) (q := 45) C dX8_sendsAsked_44 (by decide) rfl ?_
    suffices K45 : gG X 53 [some (.ref 122), some (.int 0), some (.int ((M.a 4 9)))] [.int (if (M.a 4 9) = 3 then 1 else 0 : Int32), .int ((192 + (M.a 4 9))), .int 0, .ref 122] h1 0 0 by
      refine g_icmp_ne (t := 52) (q := 48) C dX8_sendsAsked_45 (by decide) rfl (fun c_45 => ?_) (fun c_45 => ?_)
      · refine g_iconst (v := 0) (q := 53) C dX8_sendsAsked_52 (by decide) rfl ?_
        rw [if_neg c_45] at K45
        exact K45
      · refine g_iconst (v := 1) (q := 49) C dX8_sendsAsked_48 (by decide) rfl ?_
        refine g_goto (q := 53) C dX8_sendsAsked_49 (by decide) ?_
        rw [if_pos c_45] at K45
        exact K45
    refine g_callVvp (q := 56) (As := [.int 0, .int ((192 + (M.a 4 9))), .int ((if (M.a 4 9) = 3 then 1 else 0 : Int32))]) C gyX8_sends gvX8_sends t_1312 (c_X8_sends_0_p HL1 ok) dX8_sendsAsked_53 rfl HL1.1 rfl rfl rfl (Nat.le_of_ble_eq_true rfl) (Nat.le_of_ble_eq_true rfl) (Nat.le_of_ble_eq_true rfl) (Nat.le_of_ble_eq_true rfl) (Nat.le_of_ble_eq_true rfl) rfl (fun h3 z3 => ?_)
    obtain ⟨M', E', HM', frs, dd⟩ := z3
    exact E9.2.1 _ _ _ _ _ dX8_sendsAsked_56 rfl (Nat.le_of_ble_eq_true rfl) (Nat.le_of_ble_eq_true rfl) ⟨rfl, _, _, HM', (gFM.trans fr1 frs), by rw [ep]; exact dd⟩
def pX8_asks_0 (M : gMd) (y : Int32) (z : Int32) : gMd × Option (Int32 × Int32) := (pX8_sendsAsked_0 ((M.put 4 9 y).put 4 10 z))
def oX8_asks_0 (M : gMd) (y : Int32) (z : Int32) (l : Nat) (E : List (Int32 × List Int32)) : Prop := oX8_sendsAsked_0 ((M.put 4 9 y).put 4 10 z) l E
theorem dX8_asks_0 : decode cX8_asks 0 = .ok (.aload_n 0, 1) := by decide +kernel
theorem dX8_asks_1 : decode cX8_asks 1 = .ok (.getfield 22, 3) := by decide +kernel
theorem dX8_asks_4 : decode cX8_asks 4 = .ok (.bipush 16, 2) := by decide +kernel
theorem dX8_asks_6 : decode cX8_asks 6 = .ok (.iload_n 1, 1) := by decide +kernel
theorem dX8_asks_7 : decode cX8_asks 7 = .ok (.imul, 1) := by decide +kernel
theorem dX8_asks_8 : decode cX8_asks 8 = .ok (.bipush 9, 2) := by decide +kernel
theorem dX8_asks_10 : decode cX8_asks 10 = .ok (.iadd, 1) := by decide +kernel
theorem dX8_asks_11 : decode cX8_asks 11 = .ok (.iload_n 2, 1) := by decide +kernel
theorem dX8_asks_12 : decode cX8_asks 12 = .ok (.iastore, 1) := by decide +kernel
theorem dX8_asks_13 : decode cX8_asks 13 = .ok (.aload_n 0, 1) := by decide +kernel
theorem dX8_asks_14 : decode cX8_asks 14 = .ok (.getfield 22, 3) := by decide +kernel
theorem dX8_asks_17 : decode cX8_asks 17 = .ok (.bipush 16, 2) := by decide +kernel
theorem dX8_asks_19 : decode cX8_asks 19 = .ok (.iload_n 1, 1) := by decide +kernel
theorem dX8_asks_20 : decode cX8_asks 20 = .ok (.imul, 1) := by decide +kernel
theorem dX8_asks_21 : decode cX8_asks 21 = .ok (.bipush 10, 2) := by decide +kernel
theorem dX8_asks_23 : decode cX8_asks 23 = .ok (.iadd, 1) := by decide +kernel
theorem dX8_asks_24 : decode cX8_asks 24 = .ok (.iload_n 3, 1) := by decide +kernel
theorem dX8_asks_25 : decode cX8_asks 25 = .ok (.iastore, 1) := by decide +kernel
theorem dX8_asks_26 : decode cX8_asks 26 = .ok (.aload_n 0, 1) := by decide +kernel
theorem dX8_asks_27 : decode cX8_asks 27 = .ok (.iload_n 1, 1) := by decide +kernel
theorem dX8_asks_28 : decode cX8_asks 28 = .ok (.invokevirtual 201, 3) := by decide +kernel
theorem dX8_asks_31 : decode cX8_asks 31 = .ok (.return_, 1) := by decide +kernel
set_option maxRecDepth 100000 in
set_option maxHeartbeats 4000000 in
theorem c_X8_asks_0_p {hp : List gA} {M : gMd} {y : Int32} {z : Int32} {l : Nat} {E : List (Int32 × List Int32)}  (HM : gMod hp M) (ok : oX8_asks_0 M y z l E)  : gM yX8_asks cX8_asks 4 (none) 5 117 [.ref 122, .int 0, .int y, .int z] (hp) (0) (0) (fun v h => v = none ∧ ∃ M' E', gMod h M' ∧ gFM hp h ∧ gDo 0 (pX8_asks_0 M y z) l E M' E') := by
  refine gM_of (ls0 := [some (.ref 122), some (.int 0), some (.int y), some (.int z)]) (by decide +kernel) (Nat.le_of_ble_eq_true rfl) rfl fun X C E9 => ?_
  obtain ⟨P, ep⟩ : ∃ P, P = pX8_asks_0 M y z := ⟨_, rfl⟩
  rw [← ep] at E9
  unfold pX8_asks_0 at ep
  unfold oX8_asks_0 at ok
  refine g_aload_n (q := 1) C dX8_asks_0 rfl rfl ?_
  refine g_getfield (v := .ref 127) (q := 4) C fX8_22 dX8_asks_1 rfl HM.1 rfl ?_
  refine g_bipush (v := 16) (q := 6) C dX8_asks_4 (by decide) rfl ?_
  refine g_iload_n (q := 7) C dX8_asks_6 rfl rfl ?_
  refine g_imul (q := 8) C dX8_asks_7 rfl ?_
  refine g_bipush (v := 9) (q := 10) C dX8_asks_8 (by decide) rfl ?_
  refine g_iadd (q := 11) C dX8_asks_10 rfl ?_
  refine g_iload_n (q := 12) C dX8_asks_11 rfl rfl ?_
  refine g_iastoreN (j := 9) (q := 13) C dX8_asks_12 rfl (HM.ar (i := 4) (n := 772) (by decide) rfl) (pk_in 9 772 (by decide)) (pk_cl 9) ?_
  refine gMsto (i := 4) (j := 9) (x := y) HM (by decide) rfl rfl fun h1 HL1 fr1 => ?_
  refine g_aload_n (q := 14) C dX8_asks_13 rfl rfl ?_
  refine g_getfield (v := .ref 127) (q := 17) C fX8_22 dX8_asks_14 rfl HL1.1 rfl ?_
  refine g_bipush (v := 16) (q := 19) C dX8_asks_17 (by decide) rfl ?_
  refine g_iload_n (q := 20) C dX8_asks_19 rfl rfl ?_
  refine g_imul (q := 21) C dX8_asks_20 rfl ?_
  refine g_bipush (v := 10) (q := 23) C dX8_asks_21 (by decide) rfl ?_
  refine g_iadd (q := 24) C dX8_asks_23 rfl ?_
  refine g_iload_n (q := 25) C dX8_asks_24 rfl rfl ?_
  refine g_iastoreN (j := 10) (q := 26) C dX8_asks_25 rfl (HL1.ar (i := 4) (n := 772) (by decide) rfl) (pk_in 10 772 (by decide)) (pk_cl 10) ?_
  refine gMsto (i := 4) (j := 10) (x := z) HL1 (by decide) rfl rfl fun h2 HL2 fr2 => ?_
  refine g_aload_n (q := 27) C dX8_asks_26 rfl rfl ?_
  refine g_iload_n (q := 28) C dX8_asks_27 rfl rfl ?_
  refine g_callVvp (q := 31) (As := [.int 0]) C gyX8_sendsAsked gvX8_sendsAsked t_1344 (c_X8_sendsAsked_0_p HL2 ok) dX8_asks_28 rfl HL2.1 rfl rfl rfl (Nat.le_of_ble_eq_true rfl) (Nat.le_of_ble_eq_true rfl) (Nat.le_of_ble_eq_true rfl) (Nat.le_of_ble_eq_true rfl) (Nat.le_of_ble_eq_true rfl) rfl (fun h3 z3 => ?_)
  obtain ⟨M', E', HM', frs, dd⟩ := z3
  exact E9.2.1 _ _ _ _ _ dX8_asks_31 rfl (Nat.le_of_ble_eq_true rfl) (Nat.le_of_ble_eq_true rfl) ⟨rfl, _, _, HM', (gFM.trans (gFM.trans fr1 fr2) frs), by rw [ep]; exact dd⟩
def pX8_responds_0 (M : gMd) : gMd × Option (Int32 × Int32) := ((M.put 14 0 (M.a 13 3)), some (((M.a 13 1) + 32), (M.a 13 2)))
def oX8_responds_0 (M : gMd) (l : Nat) (E : List (Int32 × List Int32)) : Prop := gSk (M.put 14 0 (M.a 13 3)) ((M.a 13 1) + 32) (M.a 13 2) l E
theorem dX8_responds_0 : decode cX8_responds 0 = .ok (.aload_n 0, 1) := by decide +kernel
theorem dX8_responds_1 : decode cX8_responds 1 = .ok (.getfield 57, 3) := by decide +kernel
theorem dX8_responds_4 : decode cX8_responds 4 = .ok (.iconst 0, 1) := by decide +kernel
theorem dX8_responds_5 : decode cX8_responds 5 = .ok (.aload_n 0, 1) := by decide +kernel
theorem dX8_responds_6 : decode cX8_responds 6 = .ok (.getfield 54, 3) := by decide +kernel
theorem dX8_responds_9 : decode cX8_responds 9 = .ok (.iconst 3, 1) := by decide +kernel
theorem dX8_responds_10 : decode cX8_responds 10 = .ok (.iaload, 1) := by decide +kernel
theorem dX8_responds_11 : decode cX8_responds 11 = .ok (.iastore, 1) := by decide +kernel
theorem dX8_responds_12 : decode cX8_responds 12 = .ok (.aload_n 0, 1) := by decide +kernel
theorem dX8_responds_13 : decode cX8_responds 13 = .ok (.iload_n 1, 1) := by decide +kernel
theorem dX8_responds_14 : decode cX8_responds 14 = .ok (.aload_n 0, 1) := by decide +kernel
theorem dX8_responds_15 : decode cX8_responds 15 = .ok (.getfield 54, 3) := by decide +kernel
theorem dX8_responds_18 : decode cX8_responds 18 = .ok (.iconst 1, 1) := by decide +kernel
theorem dX8_responds_19 : decode cX8_responds 19 = .ok (.iaload, 1) := by decide +kernel
theorem dX8_responds_20 : decode cX8_responds 20 = .ok (.bipush 32, 2) := by decide +kernel
theorem dX8_responds_22 : decode cX8_responds 22 = .ok (.iadd, 1) := by decide +kernel
theorem dX8_responds_23 : decode cX8_responds 23 = .ok (.aload_n 0, 1) := by decide +kernel
theorem dX8_responds_24 : decode cX8_responds 24 = .ok (.getfield 54, 3) := by decide +kernel
theorem dX8_responds_27 : decode cX8_responds 27 = .ok (.iconst 2, 1) := by decide +kernel
theorem dX8_responds_28 : decode cX8_responds 28 = .ok (.iaload, 1) := by decide +kernel
theorem dX8_responds_29 : decode cX8_responds 29 = .ok (.invokevirtual 198, 3) := by decide +kernel
theorem dX8_responds_32 : decode cX8_responds 32 = .ok (.return_, 1) := by decide +kernel
set_option maxRecDepth 100000 in
set_option maxHeartbeats 4000000 in
theorem c_X8_responds_0_p {hp : List gA} {M : gMd} {l : Nat} {E : List (Int32 × List Int32)}  (HM : gMod hp M) (ok : oX8_responds_0 M l E)  : gM yX8_responds cX8_responds 2 (none) 4 95 [.ref 122, .int 0] (hp) (0) (0) (fun v h => v = none ∧ ∃ M' E', gMod h M' ∧ gFM hp h ∧ gDo 0 (pX8_responds_0 M) l E M' E') := by
  refine gM_of (ls0 := [some (.ref 122), some (.int 0)]) (by decide +kernel) (Nat.le_of_ble_eq_true rfl) rfl fun X C E9 => ?_
  obtain ⟨P, ep⟩ : ∃ P, P = pX8_responds_0 M := ⟨_, rfl⟩
  rw [← ep] at E9
  unfold pX8_responds_0 at ep
  unfold oX8_responds_0 at ok
  refine g_aload_n (q := 1) C dX8_responds_0 rfl rfl ?_
  refine g_getfield (v := .ref 137) (q := 4) C fX8_57 dX8_responds_1 rfl HM.1 rfl ?_
  refine g_iconst (v := 0) (q := 5) C dX8_responds_4 (by decide) rfl ?_
  refine g_aload_n (q := 6) C dX8_responds_5 rfl rfl ?_
  refine g_getfield (v := .ref 136) (q := 9) C fX8_54 dX8_responds_6 rfl HM.1 rfl ?_
  refine g_iconst (v := 3) (q := 10) C dX8_responds_9 (by decide) rfl ?_
  refine g_ialoadN (x := (M.a 13 3)) (j := 3) (q := 11) C dX8_responds_10 rfl (HM.ar (i := 13) (n := 260) (by decide) rfl) (pk_in 3 260 (by decide)) (pk_cl 3) rfl ?_
  refine g_iastoreN (j := 0) (q := 12) C dX8_responds_11 rfl (HM.ar (i := 14) (n := 256) (by decide) rfl) (pk_in 0 256 (by decide)) (pk_cl 0) ?_
  refine gMsto (i := 14) (j := 0) (x := (M.a 13 3)) HM (by decide) rfl rfl fun h1 HL1 fr1 => ?_
  refine g_aload_n (q := 13) C dX8_responds_12 rfl rfl ?_
  refine g_iload_n (q := 14) C dX8_responds_13 rfl rfl ?_
  refine g_aload_n (q := 15) C dX8_responds_14 rfl rfl ?_
  refine g_getfield (v := .ref 136) (q := 18) C fX8_54 dX8_responds_15 rfl HL1.1 rfl ?_
  refine g_iconst (v := 1) (q := 19) C dX8_responds_18 (by decide) rfl ?_
  refine g_ialoadN (x := (M.a 13 1)) (j := 1) (q := 20) C dX8_responds_19 rfl (HL1.ar (i := 13) (n := 260) (by decide) rfl) (pk_in 1 260 (by decide)) (pk_cl 1) (gput_o (by decide)) ?_
  refine g_bipush (v := 32) (q := 22) C dX8_responds_20 (by decide) rfl ?_
  refine g_iadd (q := 23) C dX8_responds_22 rfl ?_
  refine g_aload_n (q := 24) C dX8_responds_23 rfl rfl ?_
  refine g_getfield (v := .ref 136) (q := 27) C fX8_54 dX8_responds_24 rfl HL1.1 rfl ?_
  refine g_iconst (v := 2) (q := 28) C dX8_responds_27 (by decide) rfl ?_
  refine g_ialoadN (x := (M.a 13 2)) (j := 2) (q := 29) C dX8_responds_28 rfl (HL1.ar (i := 13) (n := 260) (by decide) rfl) (pk_in 2 260 (by decide)) (pk_cl 2) (gput_o (by decide)) ?_
  refine g_callVvp (q := 32) (As := [.int 0, .int (((M.a 13 1) + 32)), .int ((M.a 13 2))]) C gyX8_sends gvX8_sends t_1312 (c_X8_sends_0_p HL1 ok) dX8_responds_29 rfl HL1.1 rfl rfl rfl (Nat.le_of_ble_eq_true rfl) (Nat.le_of_ble_eq_true rfl) (Nat.le_of_ble_eq_true rfl) (Nat.le_of_ble_eq_true rfl) (Nat.le_of_ble_eq_true rfl) rfl (fun h2 z2 => ?_)
  obtain ⟨M', E', HM', frs, dd⟩ := z2
  exact E9.2.1 _ _ _ _ _ dX8_responds_32 rfl (Nat.le_of_ble_eq_true rfl) (Nat.le_of_ble_eq_true rfl) ⟨rfl, _, _, HM', (gFM.trans fr1 frs), by rw [ep]; exact dd⟩
def pX8_sendsR_1 (M : gMd) (y : Int32) : gMd × Option (Int32 × Int32) := (M, some (((128 + (16 * (M.a 4 17))) + y), 0))
def oX8_sendsR_1 (M : gMd) (y : Int32) (l : Nat) (E : List (Int32 × List Int32)) : Prop := gSk M ((128 + (16 * (M.a 4 17))) + y) 0 l E
set_option maxRecDepth 100000 in
set_option maxHeartbeats 4000000 in
theorem c_X8_sendsR_1_p {hp : List gA} {M : gMd} {y : Int32} {l : Nat} {E : List (Int32 × List Int32)}  (HM : gMod hp M) (ok : oX8_sendsR_1 M y l E)  : gM yX8_sendsR cX8_sendsR 3 (none) 4 95 [.ref 122, .int 1, .int y] (hp) (0) (0) (fun v h => v = none ∧ ∃ M' E', gMod h M' ∧ gFM hp h ∧ gDo 1 (pX8_sendsR_1 M y) l E M' E') := by
  refine gM_of (ls0 := [some (.ref 122), some (.int 1), some (.int y)]) (by decide +kernel) (Nat.le_of_ble_eq_true rfl) rfl fun X C E9 => ?_
  obtain ⟨P, ep⟩ : ∃ P, P = pX8_sendsR_1 M y := ⟨_, rfl⟩
  rw [← ep] at E9
  unfold pX8_sendsR_1 at ep
  unfold oX8_sendsR_1 at ok
  refine g_aload_n (q := 1) C dX8_sendsR_0 rfl rfl ?_
  refine g_iload_n (q := 2) C dX8_sendsR_1 rfl rfl ?_
  refine g_sipush (v := 128) (q := 5) C dX8_sendsR_2 (by decide) rfl ?_
  refine g_bipush (v := 16) (q := 7) C dX8_sendsR_5 (by decide) rfl ?_
  refine g_aload_n (q := 8) C dX8_sendsR_7 rfl rfl ?_
  refine g_getfield (v := .ref 127) (q := 11) C fX8_22 dX8_sendsR_8 rfl HM.1 rfl ?_
  refine g_bipush (v := 16) (q := 13) C dX8_sendsR_11 (by decide) rfl ?_
  refine g_iload_n (q := 14) C dX8_sendsR_13 rfl rfl ?_
  refine g_imul (q := 15) C dX8_sendsR_14 rfl ?_
  refine g_iconst (v := 1) (q := 16) C dX8_sendsR_15 (by decide) rfl ?_
  refine g_iadd (q := 17) C dX8_sendsR_16 rfl ?_
  refine g_ialoadN (x := (M.a 4 17)) (j := 17) (q := 18) C dX8_sendsR_17 rfl (HM.ar (i := 4) (n := 772) (by decide) rfl) (pk_in 17 772 (by decide)) (pk_cl 17) rfl ?_
  refine g_imul (q := 19) C dX8_sendsR_18 rfl ?_
  refine g_iadd (q := 20) C dX8_sendsR_19 rfl ?_
  refine g_iload_n (q := 21) C dX8_sendsR_20 rfl rfl ?_
  refine g_iadd (q := 22) C dX8_sendsR_21 rfl ?_
  refine g_iconst (v := 0) (q := 23) C dX8_sendsR_22 (by decide) rfl ?_
  refine g_callVvp (q := 26) (As := [.int 1, .int (((128 + (16 * (M.a 4 17))) + y)), .int 0]) C gyX8_sends gvX8_sends t_1312 (c_X8_sends_1_p HM ok) dX8_sendsR_23 rfl HM.1 rfl rfl rfl (Nat.le_of_ble_eq_true rfl) (Nat.le_of_ble_eq_true rfl) (Nat.le_of_ble_eq_true rfl) (Nat.le_of_ble_eq_true rfl) (Nat.le_of_ble_eq_true rfl) rfl (fun h1 z1 => ?_)
  obtain ⟨M', E', HM', frs, dd⟩ := z1
  exact E9.2.1 _ _ _ _ _ dX8_sendsR_26 rfl (Nat.le_of_ble_eq_true rfl) (Nat.le_of_ble_eq_true rfl) ⟨rfl, _, _, HM', frs, by rw [ep]; exact dd⟩
def pX8_sendsAsked_1 (M : gMd) : gMd × Option (Int32 × Int32) := (if (M.a 4 25) = 1 then ((M.put 14 0 (M.a 4 26)), some ((192 + (M.a 4 25)), 1)) else ((M.put 14 0 (M.a 4 26)), some ((192 + (M.a 4 25)), (if (M.a 4 25) = 3 then 1 else 0 : Int32))))
def oX8_sendsAsked_1 (M : gMd) (l : Nat) (E : List (Int32 × List Int32)) : Prop := (if (M.a 4 25) = 1 then gSk (M.put 14 0 (M.a 4 26)) (192 + (M.a 4 25)) 1 l E else gSk (M.put 14 0 (M.a 4 26)) (192 + (M.a 4 25)) (if (M.a 4 25) = 3 then 1 else 0 : Int32) l E)
set_option maxRecDepth 100000 in
set_option maxHeartbeats 4000000 in
theorem c_X8_sendsAsked_1_p {hp : List gA} {M : gMd} {l : Nat} {E : List (Int32 × List Int32)}  (HM : gMod hp M) (ok : oX8_sendsAsked_1 M l E)  : gM yX8_sendsAsked cX8_sendsAsked 3 (none) 4 95 [.ref 122, .int 1] (hp) (0) (0) (fun v h => v = none ∧ ∃ M' E', gMod h M' ∧ gFM hp h ∧ gDo 1 (pX8_sendsAsked_1 M) l E M' E') := by
  refine gM_of (ls0 := [some (.ref 122), some (.int 1), none]) (by decide +kernel) (Nat.le_of_ble_eq_true rfl) rfl fun X C E9 => ?_
  obtain ⟨P, ep⟩ : ∃ P, P = pX8_sendsAsked_1 M := ⟨_, rfl⟩
  rw [← ep] at E9
  unfold pX8_sendsAsked_1 at ep
  unfold oX8_sendsAsked_1 at ok
  refine g_aload_n (q := 1) C dX8_sendsAsked_0 rfl rfl ?_
  refine g_getfield (v := .ref 127) (q := 4) C fX8_22 dX8_sendsAsked_1 rfl HM.1 rfl ?_
  refine g_bipush (v := 16) (q := 6) C dX8_sendsAsked_4 (by decide) rfl ?_
  refine g_iload_n (q := 7) C dX8_sendsAsked_6 rfl rfl ?_
  refine g_imul (q := 8) C dX8_sendsAsked_7 rfl ?_
  refine g_bipush (v := 9) (q := 10) C dX8_sendsAsked_8 (by decide) rfl ?_
  refine g_iadd (q := 11) C dX8_sendsAsked_10 rfl ?_
  refine g_ialoadN (x := (M.a 4 25)) (j := 25) (q := 12) C dX8_sendsAsked_11 rfl (HM.ar (i := 4) (n := 772) (by decide) rfl) (pk_in 25 772 (by decide)) (pk_cl 25) rfl ?_
  refine g_istore_n (q := 13) C dX8_sendsAsked_12 (Nat.le_of_ble_eq_true rfl) (by simp only [gset]; rfl) rfl ?_
  refine g_aload_n (q := 14) C dX8_sendsAsked_13 rfl rfl ?_
  refine g_getfield (v := .ref 137) (q := 17) C fX8_57 dX8_sendsAsked_14 rfl HM.1 rfl ?_
  refine g_iconst (v := 0) (q := 18) C dX8_sendsAsked_17 (by decide) rfl ?_
  refine g_aload_n (q := 19) C dX8_sendsAsked_18 rfl rfl ?_
  refine g_getfield (v := .ref 127) (q := 22) C fX8_22 dX8_sendsAsked_19 rfl HM.1 rfl ?_
  refine g_bipush (v := 16) (q := 24) C dX8_sendsAsked_22 (by decide) rfl ?_
  refine g_iload_n (q := 25) C dX8_sendsAsked_24 rfl rfl ?_
  refine g_imul (q := 26) C dX8_sendsAsked_25 rfl ?_
  refine g_bipush (v := 10) (q := 28) C dX8_sendsAsked_26 (by decide) rfl ?_
  refine g_iadd (q := 29) C dX8_sendsAsked_28 rfl ?_
  refine g_ialoadN (x := (M.a 4 26)) (j := 26) (q := 30) C dX8_sendsAsked_29 rfl (HM.ar (i := 4) (n := 772) (by decide) rfl) (pk_in 26 772 (by decide)) (pk_cl 26) rfl ?_
  refine g_iastoreN (j := 0) (q := 31) C dX8_sendsAsked_30 rfl (HM.ar (i := 14) (n := 256) (by decide) rfl) (pk_in 0 256 (by decide)) (pk_cl 0) ?_
  refine gMsto (i := 14) (j := 0) (x := (M.a 4 26)) HM (by decide) rfl rfl fun h1 HL1 fr1 => ?_
  refine g_aload_n (q := 32) C dX8_sendsAsked_31 rfl rfl ?_
  refine g_iload_n (q := 33) C dX8_sendsAsked_32 rfl rfl ?_
  refine g_sipush (v := 192) (q := 36) C dX8_sendsAsked_33 (by decide) rfl ?_
  refine g_iload_n (q := 37) C dX8_sendsAsked_36 rfl rfl ?_
  refine g_iadd (q := 38) C dX8_sendsAsked_37 rfl ?_
  refine g_iload_n (q := 39) C dX8_sendsAsked_38 rfl rfl ?_
  refine g_iconst (v := 1) (q := 40) C dX8_sendsAsked_39 (by decide) rfl ?_
  refine g_icmp_eq (t := 48) (q := 43) C dX8_sendsAsked_40 (by decide) rfl (fun c_40 => ?_) (fun c_40 => ?_)
  ·
    rw [if_pos c_40] at ok ep
    refine g_iconst (v := 1) (q := 49) C dX8_sendsAsked_48 (by decide) rfl ?_
    refine g_goto (q := 53) C dX8_sendsAsked_49 (by decide) ?_
    refine g_callVvp (q := 56) (As := [.int 1, .int ((192 + (M.a 4 25))), .int 1]) C gyX8_sends gvX8_sends t_1312 (c_X8_sends_1_p HL1 ok) dX8_sendsAsked_53 rfl HL1.1 rfl rfl rfl (Nat.le_of_ble_eq_true rfl) (Nat.le_of_ble_eq_true rfl) (Nat.le_of_ble_eq_true rfl) (Nat.le_of_ble_eq_true rfl) (Nat.le_of_ble_eq_true rfl) rfl (fun h2 z2 => ?_)
    obtain ⟨M', E', HM', frs, dd⟩ := z2
    exact E9.2.1 _ _ _ _ _ dX8_sendsAsked_56 rfl (Nat.le_of_ble_eq_true rfl) (Nat.le_of_ble_eq_true rfl) ⟨rfl, _, _, HM', (gFM.trans fr1 frs), by rw [ep]; exact dd⟩
  ·
    rw [if_neg c_40] at ok ep
    refine g_iload_n (q := 44) C dX8_sendsAsked_43 rfl rfl ?_
    refine g_iconst (v := 3) (q := 45) C dX8_sendsAsked_44 (by decide) rfl ?_
    suffices K45 : gG X 53 [some (.ref 122), some (.int 1), some (.int ((M.a 4 25)))] [.int (if (M.a 4 25) = 3 then 1 else 0 : Int32), .int ((192 + (M.a 4 25))), .int 1, .ref 122] h1 0 0 by
      refine g_icmp_ne (t := 52) (q := 48) C dX8_sendsAsked_45 (by decide) rfl (fun c_45 => ?_) (fun c_45 => ?_)
      · refine g_iconst (v := 0) (q := 53) C dX8_sendsAsked_52 (by decide) rfl ?_
        rw [if_neg c_45] at K45
        exact K45
      · refine g_iconst (v := 1) (q := 49) C dX8_sendsAsked_48 (by decide) rfl ?_
        refine g_goto (q := 53) C dX8_sendsAsked_49 (by decide) ?_
        rw [if_pos c_45] at K45
        exact K45
    refine g_callVvp (q := 56) (As := [.int 1, .int ((192 + (M.a 4 25))), .int ((if (M.a 4 25) = 3 then 1 else 0 : Int32))]) C gyX8_sends gvX8_sends t_1312 (c_X8_sends_1_p HL1 ok) dX8_sendsAsked_53 rfl HL1.1 rfl rfl rfl (Nat.le_of_ble_eq_true rfl) (Nat.le_of_ble_eq_true rfl) (Nat.le_of_ble_eq_true rfl) (Nat.le_of_ble_eq_true rfl) (Nat.le_of_ble_eq_true rfl) rfl (fun h3 z3 => ?_)
    obtain ⟨M', E', HM', frs, dd⟩ := z3
    exact E9.2.1 _ _ _ _ _ dX8_sendsAsked_56 rfl (Nat.le_of_ble_eq_true rfl) (Nat.le_of_ble_eq_true rfl) ⟨rfl, _, _, HM', (gFM.trans fr1 frs), by rw [ep]; exact dd⟩
def pX8_asks_1 (M : gMd) (y : Int32) (z : Int32) : gMd × Option (Int32 × Int32) := (pX8_sendsAsked_1 ((M.put 4 25 y).put 4 26 z))
def oX8_asks_1 (M : gMd) (y : Int32) (z : Int32) (l : Nat) (E : List (Int32 × List Int32)) : Prop := oX8_sendsAsked_1 ((M.put 4 25 y).put 4 26 z) l E
set_option maxRecDepth 100000 in
set_option maxHeartbeats 4000000 in
theorem c_X8_asks_1_p {hp : List gA} {M : gMd} {y : Int32} {z : Int32} {l : Nat} {E : List (Int32 × List Int32)}  (HM : gMod hp M) (ok : oX8_asks_1 M y z l E)  : gM yX8_asks cX8_asks 4 (none) 5 117 [.ref 122, .int 1, .int y, .int z] (hp) (0) (0) (fun v h => v = none ∧ ∃ M' E', gMod h M' ∧ gFM hp h ∧ gDo 1 (pX8_asks_1 M y z) l E M' E') := by
  refine gM_of (ls0 := [some (.ref 122), some (.int 1), some (.int y), some (.int z)]) (by decide +kernel) (Nat.le_of_ble_eq_true rfl) rfl fun X C E9 => ?_
  obtain ⟨P, ep⟩ : ∃ P, P = pX8_asks_1 M y z := ⟨_, rfl⟩
  rw [← ep] at E9
  unfold pX8_asks_1 at ep
  unfold oX8_asks_1 at ok
  refine g_aload_n (q := 1) C dX8_asks_0 rfl rfl ?_
  refine g_getfield (v := .ref 127) (q := 4) C fX8_22 dX8_asks_1 rfl HM.1 rfl ?_
  refine g_bipush (v := 16) (q := 6) C dX8_asks_4 (by decide) rfl ?_
  refine g_iload_n (q := 7) C dX8_asks_6 rfl rfl ?_
  refine g_imul (q := 8) C dX8_asks_7 rfl ?_
  refine g_bipush (v := 9) (q := 10) C dX8_asks_8 (by decide) rfl ?_
  refine g_iadd (q := 11) C dX8_asks_10 rfl ?_
  refine g_iload_n (q := 12) C dX8_asks_11 rfl rfl ?_
  refine g_iastoreN (j := 25) (q := 13) C dX8_asks_12 rfl (HM.ar (i := 4) (n := 772) (by decide) rfl) (pk_in 25 772 (by decide)) (pk_cl 25) ?_
  refine gMsto (i := 4) (j := 25) (x := y) HM (by decide) rfl rfl fun h1 HL1 fr1 => ?_
  refine g_aload_n (q := 14) C dX8_asks_13 rfl rfl ?_
  refine g_getfield (v := .ref 127) (q := 17) C fX8_22 dX8_asks_14 rfl HL1.1 rfl ?_
  refine g_bipush (v := 16) (q := 19) C dX8_asks_17 (by decide) rfl ?_
  refine g_iload_n (q := 20) C dX8_asks_19 rfl rfl ?_
  refine g_imul (q := 21) C dX8_asks_20 rfl ?_
  refine g_bipush (v := 10) (q := 23) C dX8_asks_21 (by decide) rfl ?_
  refine g_iadd (q := 24) C dX8_asks_23 rfl ?_
  refine g_iload_n (q := 25) C dX8_asks_24 rfl rfl ?_
  refine g_iastoreN (j := 26) (q := 26) C dX8_asks_25 rfl (HL1.ar (i := 4) (n := 772) (by decide) rfl) (pk_in 26 772 (by decide)) (pk_cl 26) ?_
  refine gMsto (i := 4) (j := 26) (x := z) HL1 (by decide) rfl rfl fun h2 HL2 fr2 => ?_
  refine g_aload_n (q := 27) C dX8_asks_26 rfl rfl ?_
  refine g_iload_n (q := 28) C dX8_asks_27 rfl rfl ?_
  refine g_callVvp (q := 31) (As := [.int 1]) C gyX8_sendsAsked gvX8_sendsAsked t_1344 (c_X8_sendsAsked_1_p HL2 ok) dX8_asks_28 rfl HL2.1 rfl rfl rfl (Nat.le_of_ble_eq_true rfl) (Nat.le_of_ble_eq_true rfl) (Nat.le_of_ble_eq_true rfl) (Nat.le_of_ble_eq_true rfl) (Nat.le_of_ble_eq_true rfl) rfl (fun h3 z3 => ?_)
  obtain ⟨M', E', HM', frs, dd⟩ := z3
  exact E9.2.1 _ _ _ _ _ dX8_asks_31 rfl (Nat.le_of_ble_eq_true rfl) (Nat.le_of_ble_eq_true rfl) ⟨rfl, _, _, HM', (gFM.trans (gFM.trans fr1 fr2) frs), by rw [ep]; exact dd⟩
def pX8_responds_1 (M : gMd) : gMd × Option (Int32 × Int32) := ((M.put 14 0 (M.a 13 3)), some (((M.a 13 1) + 32), (M.a 13 2)))
def oX8_responds_1 (M : gMd) (l : Nat) (E : List (Int32 × List Int32)) : Prop := gSk (M.put 14 0 (M.a 13 3)) ((M.a 13 1) + 32) (M.a 13 2) l E
set_option maxRecDepth 100000 in
set_option maxHeartbeats 4000000 in
theorem c_X8_responds_1_p {hp : List gA} {M : gMd} {l : Nat} {E : List (Int32 × List Int32)}  (HM : gMod hp M) (ok : oX8_responds_1 M l E)  : gM yX8_responds cX8_responds 2 (none) 4 95 [.ref 122, .int 1] (hp) (0) (0) (fun v h => v = none ∧ ∃ M' E', gMod h M' ∧ gFM hp h ∧ gDo 1 (pX8_responds_1 M) l E M' E') := by
  refine gM_of (ls0 := [some (.ref 122), some (.int 1)]) (by decide +kernel) (Nat.le_of_ble_eq_true rfl) rfl fun X C E9 => ?_
  obtain ⟨P, ep⟩ : ∃ P, P = pX8_responds_1 M := ⟨_, rfl⟩
  rw [← ep] at E9
  unfold pX8_responds_1 at ep
  unfold oX8_responds_1 at ok
  refine g_aload_n (q := 1) C dX8_responds_0 rfl rfl ?_
  refine g_getfield (v := .ref 137) (q := 4) C fX8_57 dX8_responds_1 rfl HM.1 rfl ?_
  refine g_iconst (v := 0) (q := 5) C dX8_responds_4 (by decide) rfl ?_
  refine g_aload_n (q := 6) C dX8_responds_5 rfl rfl ?_
  refine g_getfield (v := .ref 136) (q := 9) C fX8_54 dX8_responds_6 rfl HM.1 rfl ?_
  refine g_iconst (v := 3) (q := 10) C dX8_responds_9 (by decide) rfl ?_
  refine g_ialoadN (x := (M.a 13 3)) (j := 3) (q := 11) C dX8_responds_10 rfl (HM.ar (i := 13) (n := 260) (by decide) rfl) (pk_in 3 260 (by decide)) (pk_cl 3) rfl ?_
  refine g_iastoreN (j := 0) (q := 12) C dX8_responds_11 rfl (HM.ar (i := 14) (n := 256) (by decide) rfl) (pk_in 0 256 (by decide)) (pk_cl 0) ?_
  refine gMsto (i := 14) (j := 0) (x := (M.a 13 3)) HM (by decide) rfl rfl fun h1 HL1 fr1 => ?_
  refine g_aload_n (q := 13) C dX8_responds_12 rfl rfl ?_
  refine g_iload_n (q := 14) C dX8_responds_13 rfl rfl ?_
  refine g_aload_n (q := 15) C dX8_responds_14 rfl rfl ?_
  refine g_getfield (v := .ref 136) (q := 18) C fX8_54 dX8_responds_15 rfl HL1.1 rfl ?_
  refine g_iconst (v := 1) (q := 19) C dX8_responds_18 (by decide) rfl ?_
  refine g_ialoadN (x := (M.a 13 1)) (j := 1) (q := 20) C dX8_responds_19 rfl (HL1.ar (i := 13) (n := 260) (by decide) rfl) (pk_in 1 260 (by decide)) (pk_cl 1) (gput_o (by decide)) ?_
  refine g_bipush (v := 32) (q := 22) C dX8_responds_20 (by decide) rfl ?_
  refine g_iadd (q := 23) C dX8_responds_22 rfl ?_
  refine g_aload_n (q := 24) C dX8_responds_23 rfl rfl ?_
  refine g_getfield (v := .ref 136) (q := 27) C fX8_54 dX8_responds_24 rfl HL1.1 rfl ?_
  refine g_iconst (v := 2) (q := 28) C dX8_responds_27 (by decide) rfl ?_
  refine g_ialoadN (x := (M.a 13 2)) (j := 2) (q := 29) C dX8_responds_28 rfl (HL1.ar (i := 13) (n := 260) (by decide) rfl) (pk_in 2 260 (by decide)) (pk_cl 2) (gput_o (by decide)) ?_
  refine g_callVvp (q := 32) (As := [.int 1, .int (((M.a 13 1) + 32)), .int ((M.a 13 2))]) C gyX8_sends gvX8_sends t_1312 (c_X8_sends_1_p HL1 ok) dX8_responds_29 rfl HL1.1 rfl rfl rfl (Nat.le_of_ble_eq_true rfl) (Nat.le_of_ble_eq_true rfl) (Nat.le_of_ble_eq_true rfl) (Nat.le_of_ble_eq_true rfl) (Nat.le_of_ble_eq_true rfl) rfl (fun h2 z2 => ?_)
  obtain ⟨M', E', HM', frs, dd⟩ := z2
  exact E9.2.1 _ _ _ _ _ dX8_responds_32 rfl (Nat.le_of_ble_eq_true rfl) (Nat.le_of_ble_eq_true rfl) ⟨rfl, _, _, HM', (gFM.trans fr1 frs), by rw [ep]; exact dd⟩
