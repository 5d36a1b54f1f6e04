/-! CardLink's questions (by program: wip/p1/m_face.py) -/
def gCo (fi sp : Nat) (ci : Int32) : gA := .inr (.inr (7, [.ref 1, .ref 3, .ref 20, .ref 43, .ref fi, .ref sp, .int ci]))
/-- a reset answer: its numbers and its historical bytes -/
def gRs : Type := (Nat → Int32) × List Int32
def gRs.ts (q : gRs) : Int32 := q.1 0
def gRs.fa (q : gRs) : Int32 := q.1 1
def gRs.gu (q : gRs) : Int32 := q.1 2
def gRs.pr (q : gRs) : Int32 := q.1 3
def gRs.gr (q : gRs) : Int32 := q.1 4
def gRs.ro (q : gRs) : Int32 := q.1 5
def gRs.chk (q : gRs) : Int32 := q.1 6
def gRs.pl (q : gRs) : Int32 := q.1 7
def gRs.tld (q : gRs) : Int32 := q.1 8
def gRs.lg (q : gRs) : Int32 := q.1 9
def gRs.hi (q : gRs) : List Int32 := q.2
def gRs.set (q : gRs) (k : Nat) (x : Int32) : gRs := (fun j => if j = k then x else q.1 j, q.2)
def gRs.sh (q : gRs) (l : List Int32) : gRs := (q.1, l)
def gRsC (o : Nat) (q : gRs) : gA := .inr (.inr (3, [.int q.ts, .int q.fa, .int q.gu, .int q.pr, .int q.gr, .int q.ro, .int q.chk, .ref (o + 1), .int q.pl, .int q.tld, .int q.lg]))
def gRs_ (hp : List gA) (o : Nat) (q : gRs) : Prop := hp[o]? = some (gRsC o q) ∧ gRw hp (o + 1) (o + 2) 15 q.hi
def rX7_state (ci : Int32) (L : gLn) : Int32 := (if ci = 0 then (-1) else L.st)
theorem dX7_state_0 : decode cX7_state 0 = .ok (.aload_n 0, 1) := by decide +kernel
theorem dX7_state_1 : decode cX7_state 1 = .ok (.getfield 51, 3) := by decide +kernel
theorem dX7_state_4 : decode cX7_state 4 = .ok (.ifCond .eq 13, 3) := by decide +kernel
theorem dX7_state_7 : decode cX7_state 7 = .ok (.aload_n 0, 1) := by decide +kernel
theorem dX7_state_8 : decode cX7_state 8 = .ok (.getfield 30, 3) := by decide +kernel
theorem dX7_state_11 : decode cX7_state 11 = .ok (.getfield 110, 3) := by decide +kernel
theorem dX7_state_14 : decode cX7_state 14 = .ok (.goto 4, 3) := by decide +kernel
theorem dX7_state_17 : decode cX7_state 17 = .ok (.iconst (-1), 1) := by decide +kernel
theorem dX7_state_18 : decode cX7_state 18 = .ok (.ireturn, 1) := by decide +kernel
set_option maxRecDepth 100000 in
set_option maxHeartbeats 4000000 in
theorem c_X7_state_c {hp : List gA} {ci : Int32} {fi sp : Nat} {L : gLn}  (HC : hp[0]? = some (gCo fi sp ci)) (HL : gLine hp L)  : gM yX7_state cX7_state 1 ((some .int)) 0 0 [.ref 0] (hp) (0) (0) (fun v h => v = some (.int (rX7_state ci L)) ∧ h = hp) := by
  refine gM_of (ls0 := [some (.ref 0)]) (by decide +kernel) (Nat.le_of_ble_eq_true rfl) rfl fun X C E => ?_
  refine g_aload_n (q := 1) C dX7_state_0 rfl rfl ?_
  refine g_getfield (v := .int ci) (q := 4) C fX7_51 dX7_state_1 rfl HC rfl ?_
  refine g_if_eq (t := 17) (q := 7) C dX7_state_4 (by decide) rfl (fun c_4 => ?_) (fun c_4 => ?_)
  ·
    refine g_iconst (v := (-1)) (q := 18) C dX7_state_17 (by decide) rfl ?_
    have e : rX7_state ci L = ((-1)) := (if_pos c_4)
    exact E.1 _ _ _ _ _ _ _ dX7_state_18 rfl rfl (Nat.le_of_ble_eq_true rfl) (Nat.le_of_ble_eq_true rfl) ⟨by rw [e], rfl⟩
  ·
    refine g_aload_n (q := 8) C dX7_state_7 rfl rfl ?_
    refine g_getfield (v := .ref 20) (q := 11) C fX7_30 dX7_state_8 rfl HC rfl ?_
    refine g_getfield (v := .int L.st) (q := 14) C fX7_110 dX7_state_11 rfl HL.1 rfl ?_
    refine g_goto (q := 18) C dX7_state_14 (by decide) ?_
    have e : rX7_state ci L = (L.st) := (if_neg c_4)
    exact E.1 _ _ _ _ _ _ _ dX7_state_18 rfl rfl (Nat.le_of_ble_eq_true rfl) (Nat.le_of_ble_eq_true rfl) ⟨by rw [e], rfl⟩
def rX7_mayStart (ci : Int32) (L : gLn) : Int32 := (if ci = 0 then 0 else (if L.st = 1 then 0 else (if L.st = 4 then 0 else 1)))
theorem dX7_mayStart_0 : decode cX7_mayStart 0 = .ok (.aload_n 0, 1) := by decide +kernel
theorem dX7_mayStart_1 : decode cX7_mayStart 1 = .ok (.getfield 51, 3) := by decide +kernel
theorem dX7_mayStart_4 : decode cX7_mayStart 4 = .ok (.ifCond .eq 29, 3) := by decide +kernel
theorem dX7_mayStart_7 : decode cX7_mayStart 7 = .ok (.aload_n 0, 1) := by decide +kernel
theorem dX7_mayStart_8 : decode cX7_mayStart 8 = .ok (.getfield 30, 3) := by decide +kernel
theorem dX7_mayStart_11 : decode cX7_mayStart 11 = .ok (.getfield 110, 3) := by decide +kernel
theorem dX7_mayStart_14 : decode cX7_mayStart 14 = .ok (.iconst 1, 1) := by decide +kernel
theorem dX7_mayStart_15 : decode cX7_mayStart 15 = .ok (.if_icmp .eq 18, 3) := by decide +kernel
theorem dX7_mayStart_18 : decode cX7_mayStart 18 = .ok (.aload_n 0, 1) := by decide +kernel
theorem dX7_mayStart_19 : decode cX7_mayStart 19 = .ok (.getfield 30, 3) := by decide +kernel
theorem dX7_mayStart_22 : decode cX7_mayStart 22 = .ok (.getfield 110, 3) := by decide +kernel
theorem dX7_mayStart_25 : decode cX7_mayStart 25 = .ok (.iconst 4, 1) := by decide +kernel
theorem dX7_mayStart_26 : decode cX7_mayStart 26 = .ok (.if_icmp .eq 7, 3) := by decide +kernel
theorem dX7_mayStart_29 : decode cX7_mayStart 29 = .ok (.iconst 1, 1) := by decide +kernel
theorem dX7_mayStart_30 : decode cX7_mayStart 30 = .ok (.goto 4, 3) := by decide +kernel
theorem dX7_mayStart_33 : decode cX7_mayStart 33 = .ok (.iconst 0, 1) := by decide +kernel
theorem dX7_mayStart_34 : decode cX7_mayStart 34 = .ok (.ireturn, 1) := by decide +kernel
set_option maxRecDepth 100000 in
set_option maxHeartbeats 4000000 in
theorem c_X7_mayStart_c {hp : List gA} {ci : Int32} {fi sp : Nat} {L : gLn}  (HC : hp[0]? = some (gCo fi sp ci)) (HL : gLine hp L)  : gM yX7_mayStart cX7_mayStart 1 ((some .boolean)) 0 0 [.ref 0] (hp) (0) (0) (fun v h => v = some (.int (rX7_mayStart ci L)) ∧ h = hp) := by
  refine gM_of (ls0 := [some (.ref 0)]) (by decide +kernel) (Nat.le_of_ble_eq_true rfl) rfl fun X C E => ?_
  refine g_aload_n (q := 1) C dX7_mayStart_0 rfl rfl ?_
  refine g_getfield (v := .int ci) (q := 4) C fX7_51 dX7_mayStart_1 rfl HC rfl ?_
  refine g_if_eq (t := 33) (q := 7) C dX7_mayStart_4 (by decide) rfl (fun c_4 => ?_) (fun c_4 => ?_)
  ·
    refine g_iconst (v := 0) (q := 34) C dX7_mayStart_33 (by decide) rfl ?_
    have e : rX7_mayStart ci L = (0) := (if_pos c_4)
    exact E.1 _ _ _ _ _ _ _ dX7_mayStart_34 rfl rfl (Nat.le_of_ble_eq_true rfl) (Nat.le_of_ble_eq_true rfl) ⟨by rw [e], rfl⟩
  ·
    refine g_aload_n (q := 8) C dX7_mayStart_7 rfl rfl ?_
    refine g_getfield (v := .ref 20) (q := 11) C fX7_30 dX7_mayStart_8 rfl HC rfl ?_
    refine g_getfield (v := .int L.st) (q := 14) C fX7_110 dX7_mayStart_11 rfl HL.1 rfl ?_
    refine g_iconst (v := 1) (q := 15) C dX7_mayStart_14 (by decide) rfl ?_
    refine g_icmp_eq (t := 33) (q := 18) C dX7_mayStart_15 (by decide) rfl (fun c_15 => ?_) (fun c_15 => ?_)
    ·
      refine g_iconst (v := 0) (q := 34) C dX7_mayStart_33 (by decide) rfl ?_
      have e : rX7_mayStart ci L = (0) := ((if_neg c_4).trans (if_pos c_15))
      exact E.1 _ _ _ _ _ _ _ dX7_mayStart_34 rfl rfl (Nat.le_of_ble_eq_true rfl) (Nat.le_of_ble_eq_true rfl) ⟨by rw [e], rfl⟩
    ·
      refine g_aload_n (q := 19) C dX7_mayStart_18 rfl rfl ?_
      refine g_getfield (v := .ref 20) (q := 22) C fX7_30 dX7_mayStart_19 rfl HC rfl ?_
      refine g_getfield (v := .int L.st) (q := 25) C fX7_110 dX7_mayStart_22 rfl HL.1 rfl ?_
      refine g_iconst (v := 4) (q := 26) C dX7_mayStart_25 (by decide) rfl ?_
      refine g_icmp_eq (t := 33) (q := 29) C dX7_mayStart_26 (by decide) rfl (fun c_26 => ?_) (fun c_26 => ?_)
      ·
        refine g_iconst (v := 0) (q := 34) C dX7_mayStart_33 (by decide) rfl ?_
        have e : rX7_mayStart ci L = (0) := ((if_neg c_4).trans ((if_neg c_15).trans (if_pos c_26)))
        exact E.1 _ _ _ _ _ _ _ dX7_mayStart_34 rfl rfl (Nat.le_of_ble_eq_true rfl) (Nat.le_of_ble_eq_true rfl) ⟨by rw [e], rfl⟩
      ·
        refine g_iconst (v := 1) (q := 30) C dX7_mayStart_29 (by decide) rfl ?_
        refine g_goto (q := 34) C dX7_mayStart_30 (by decide) ?_
        have e : rX7_mayStart ci L = (1) := ((if_neg c_4).trans ((if_neg c_15).trans (if_neg c_26)))
        exact E.1 _ _ _ _ _ _ _ dX7_mayStart_34 rfl rfl (Nat.le_of_ble_eq_true rfl) (Nat.le_of_ble_eq_true rfl) ⟨by rw [e], rfl⟩
def rX7_onWay (ci : Int32) (L : gLn) : Int32 := (if ci = 0 then 0 else (if L.st = 1 then 1 else 0))
theorem dX7_onWay_0 : decode cX7_onWay 0 = .ok (.aload_n 0, 1) := by decide +kernel
theorem dX7_onWay_1 : decode cX7_onWay 1 = .ok (.getfield 51, 3) := by decide +kernel
theorem dX7_onWay_4 : decode cX7_onWay 4 = .ok (.ifCond .eq 18, 3) := by decide +kernel
theorem dX7_onWay_7 : decode cX7_onWay 7 = .ok (.aload_n 0, 1) := by decide +kernel
theorem dX7_onWay_8 : decode cX7_onWay 8 = .ok (.getfield 30, 3) := by decide +kernel
theorem dX7_onWay_11 : decode cX7_onWay 11 = .ok (.getfield 110, 3) := by decide +kernel
theorem dX7_onWay_14 : decode cX7_onWay 14 = .ok (.iconst 1, 1) := by decide +kernel
theorem dX7_onWay_15 : decode cX7_onWay 15 = .ok (.if_icmp .ne 7, 3) := by decide +kernel
theorem dX7_onWay_18 : decode cX7_onWay 18 = .ok (.iconst 1, 1) := by decide +kernel
theorem dX7_onWay_19 : decode cX7_onWay 19 = .ok (.goto 4, 3) := by decide +kernel
theorem dX7_onWay_22 : decode cX7_onWay 22 = .ok (.iconst 0, 1) := by decide +kernel
theorem dX7_onWay_23 : decode cX7_onWay 23 = .ok (.ireturn, 1) := by decide +kernel
set_option maxRecDepth 100000 in
set_option maxHeartbeats 4000000 in
theorem c_X7_onWay_c {hp : List gA} {ci : Int32} {fi sp : Nat} {L : gLn}  (HC : hp[0]? = some (gCo fi sp ci)) (HL : gLine hp L)  : gM yX7_onWay cX7_onWay 1 ((some .boolean)) 0 0 [.ref 0] (hp) (0) (0) (fun v h => v = some (.int (rX7_onWay ci L)) ∧ h = hp) := by
  refine gM_of (ls0 := [some (.ref 0)]) (by decide +kernel) (Nat.le_of_ble_eq_true rfl) rfl fun X C E => ?_
  refine g_aload_n (q := 1) C dX7_onWay_0 rfl rfl ?_
  refine g_getfield (v := .int ci) (q := 4) C fX7_51 dX7_onWay_1 rfl HC rfl ?_
  refine g_if_eq (t := 22) (q := 7) C dX7_onWay_4 (by decide) rfl (fun c_4 => ?_) (fun c_4 => ?_)
  ·
    refine g_iconst (v := 0) (q := 23) C dX7_onWay_22 (by decide) rfl ?_
    have e : rX7_onWay ci L = (0) := (if_pos c_4)
    exact E.1 _ _ _ _ _ _ _ dX7_onWay_23 rfl rfl (Nat.le_of_ble_eq_true rfl) (Nat.le_of_ble_eq_true rfl) ⟨by rw [e], rfl⟩
  ·
    refine g_aload_n (q := 8) C dX7_onWay_7 rfl rfl ?_
    refine g_getfield (v := .ref 20) (q := 11) C fX7_30 dX7_onWay_8 rfl HC rfl ?_
    refine g_getfield (v := .int L.st) (q := 14) C fX7_110 dX7_onWay_11 rfl HL.1 rfl ?_
    refine g_iconst (v := 1) (q := 15) C dX7_onWay_14 (by decide) rfl ?_
    refine g_icmp_ne (t := 22) (q := 18) C dX7_onWay_15 (by decide) rfl (fun c_15 => ?_) (fun c_15 => ?_)
    ·
      refine g_iconst (v := 0) (q := 23) C dX7_onWay_22 (by decide) rfl ?_
      have e : rX7_onWay ci L = (0) := ((if_neg c_4).trans (if_neg c_15))
      exact E.1 _ _ _ _ _ _ _ dX7_onWay_23 rfl rfl (Nat.le_of_ble_eq_true rfl) (Nat.le_of_ble_eq_true rfl) ⟨by rw [e], rfl⟩
    ·
      refine g_iconst (v := 1) (q := 19) C dX7_onWay_18 (by decide) rfl ?_
      refine g_goto (q := 23) C dX7_onWay_19 (by decide) ?_
      have e : rX7_onWay ci L = (1) := ((if_neg c_4).trans (if_pos c_15))
      exact E.1 _ _ _ _ _ _ _ dX7_onWay_23 rfl rfl (Nat.le_of_ble_eq_true rfl) (Nat.le_of_ble_eq_true rfl) ⟨by rw [e], rfl⟩
theorem dX7_sideOf_0 : decode cX7_sideOf 0 = .ok (.iload_n 1, 1) := by decide +kernel
theorem dX7_sideOf_1 : decode cX7_sideOf 1 = .ok (.ifCond .ne 13, 3) := by decide +kernel
theorem dX7_sideOf_4 : decode cX7_sideOf 4 = .ok (.aload_n 0, 1) := by decide +kernel
theorem dX7_sideOf_5 : decode cX7_sideOf 5 = .ok (.getfield 30, 3) := by decide +kernel
theorem dX7_sideOf_8 : decode cX7_sideOf 8 = .ok (.getfield 146, 3) := by decide +kernel
theorem dX7_sideOf_11 : decode cX7_sideOf 11 = .ok (.goto 10, 3) := by decide +kernel
theorem dX7_sideOf_21 : decode cX7_sideOf 21 = .ok (.areturn, 1) := by decide +kernel
set_option maxRecDepth 100000 in
set_option maxHeartbeats 4000000 in
theorem c_X7_sideOf_0_c {hp : List gA} {ci : Int32} {fi sp : Nat} {L : gLn}  (HC : hp[0]? = some (gCo fi sp ci)) (HL : gLine hp L)  : gM yX7_sideOf cX7_sideOf 2 ((some (.object "CardLink$Side"))) 0 0 [.ref 0, .int 0] (hp) (0) (0) (fun v h => v = some (.ref 21) ∧ h = hp) := by
  refine gM_of (ls0 := [some (.ref 0), some (.int 0)]) (by decide +kernel) (Nat.le_of_ble_eq_true rfl) rfl fun X C E => ?_
  refine g_iload_n (q := 1) C dX7_sideOf_0 rfl rfl ?_
  refine g_if_ne_f (t := 14) (q := 4) C dX7_sideOf_1 (by decide) rfl (by decide) ?_
  refine g_aload_n (q := 5) C dX7_sideOf_4 rfl rfl ?_
  refine g_getfield (v := .ref 20) (q := 8) C fX7_30 dX7_sideOf_5 rfl HC rfl ?_
  refine g_getfieldW (v := .ref 21) (q := 11) C fX7_146 dX7_sideOf_8 rfl HL.1 rfl ?_
  refine g_goto (q := 21) C dX7_sideOf_11 (by decide) ?_
  exact E.2.2 _ _ _ _ _ _ _ dX7_sideOf_21 rfl (Or.inl ⟨_, rfl⟩) (Nat.le_of_ble_eq_true rfl) (Nat.le_of_ble_eq_true rfl) ⟨rfl, rfl⟩
theorem dX7_sideOf_14 : decode cX7_sideOf 14 = .ok (.aload_n 0, 1) := by decide +kernel
theorem dX7_sideOf_15 : decode cX7_sideOf 15 = .ok (.getfield 30, 3) := by decide +kernel
theorem dX7_sideOf_18 : decode cX7_sideOf 18 = .ok (.getfield 150, 3) := by decide +kernel
set_option maxRecDepth 100000 in
set_option maxHeartbeats 4000000 in
theorem c_X7_sideOf_1_c {hp : List gA} {ci : Int32} {fi sp : Nat} {L : gLn}  (HC : hp[0]? = some (gCo fi sp ci)) (HL : gLine hp L)  : gM yX7_sideOf cX7_sideOf 2 ((some (.object "CardLink$Side"))) 0 0 [.ref 0, .int 1] (hp) (0) (0) (fun v h => v = some (.ref 28) ∧ h = hp) := by
  refine gM_of (ls0 := [some (.ref 0), some (.int 1)]) (by decide +kernel) (Nat.le_of_ble_eq_true rfl) rfl fun X C E => ?_
  refine g_iload_n (q := 1) C dX7_sideOf_0 rfl rfl ?_
  refine g_if_ne_t (t := 14) C dX7_sideOf_1 (by decide) (by decide) ?_
  refine g_aload_n (q := 15) C dX7_sideOf_14 rfl rfl ?_
  refine g_getfield (v := .ref 20) (q := 18) C fX7_30 dX7_sideOf_15 rfl HC rfl ?_
  refine g_getfieldW (v := .ref 28) (q := 21) C fX7_150 dX7_sideOf_18 rfl HL.1 rfl ?_
  exact E.2.2 _ _ _ _ _ _ _ dX7_sideOf_21 rfl (Or.inl ⟨_, rfl⟩) (Nat.le_of_ble_eq_true rfl) (Nat.le_of_ble_eq_true rfl) ⟨rfl, rfl⟩
def rX7_side_0 (ci : Int32) (L : gLn) (x : Int32) : Int32 := (if ci = 0 then (-2) else (L.rd.tell x))
theorem dX7_side_0 : decode cX7_side 0 = .ok (.aload_n 0, 1) := by decide +kernel
theorem dX7_side_1 : decode cX7_side 1 = .ok (.getfield 51, 3) := by decide +kernel
theorem dX7_side_4 : decode cX7_side 4 = .ok (.ifCond .eq 12, 3) := by decide +kernel
theorem dX7_side_7 : decode cX7_side 7 = .ok (.iload_n 1, 1) := by decide +kernel
theorem dX7_side_8 : decode cX7_side 8 = .ok (.ifCond .lt 8, 3) := by decide +kernel
theorem dX7_side_11 : decode cX7_side 11 = .ok (.iload_n 1, 1) := by decide +kernel
theorem dX7_side_12 : decode cX7_side 12 = .ok (.iconst 1, 1) := by decide +kernel
theorem dX7_side_13 : decode cX7_side 13 = .ok (.if_icmp .le 6, 3) := by decide +kernel
theorem dX7_side_16 : decode cX7_side 16 = .ok (.bipush (-2), 2) := by decide +kernel
theorem dX7_side_18 : decode cX7_side 18 = .ok (.ireturn, 1) := by decide +kernel
theorem dX7_side_19 : decode cX7_side 19 = .ok (.aload_n 0, 1) := by decide +kernel
theorem dX7_side_20 : decode cX7_side 20 = .ok (.iload_n 1, 1) := by decide +kernel
theorem dX7_side_21 : decode cX7_side 21 = .ok (.invokevirtual 139, 3) := by decide +kernel
theorem dX7_side_24 : decode cX7_side 24 = .ok (.iload_n 2, 1) := by decide +kernel
theorem dX7_side_25 : decode cX7_side 25 = .ok (.invokevirtual 143, 3) := by decide +kernel
theorem dX7_side_28 : decode cX7_side 28 = .ok (.ireturn, 1) := by decide +kernel
set_option maxRecDepth 100000 in
set_option maxHeartbeats 4000000 in
theorem c_X7_side_0_c {hp : List gA} {ci : Int32} {fi sp : Nat} {L : gLn} {x : Int32}  (HC : hp[0]? = some (gCo fi sp ci)) (HL : gLine hp L)  : gM yX7_side cX7_side 3 ((some .int)) 2 41 [.ref 0, .int 0, .int x] (hp) (0) (0) (fun v h => v = some (.int (rX7_side_0 ci L x)) ∧ h = hp) := by
  refine gM_of (ls0 := [some (.ref 0), some (.int 0), some (.int x)]) (by decide +kernel) (Nat.le_of_ble_eq_true rfl) rfl fun X C E => ?_
  refine g_aload_n (q := 1) C dX7_side_0 rfl rfl ?_
  refine g_getfield (v := .int ci) (q := 4) C fX7_51 dX7_side_1 rfl HC rfl ?_
  refine g_if_eq (t := 16) (q := 7) C dX7_side_4 (by decide) rfl (fun c_4 => ?_) (fun c_4 => ?_)
  ·
    refine g_bipush (v := (-2)) (q := 18) C dX7_side_16 (by decide) rfl ?_
    have e : rX7_side_0 ci L x = ((-2)) := (if_pos c_4)
    exact E.1 _ _ _ _ _ _ _ dX7_side_18 rfl rfl (Nat.le_of_ble_eq_true rfl) (Nat.le_of_ble_eq_true rfl) ⟨by rw [e], rfl⟩
  ·
    refine g_iload_n (q := 8) C dX7_side_7 rfl rfl ?_
    refine g_if_lt_f (t := 16) (q := 11) C dX7_side_8 (by decide) rfl (by decide) ?_
    refine g_iload_n (q := 12) C dX7_side_11 rfl rfl ?_
    refine g_iconst (v := 1) (q := 13) C dX7_side_12 (by decide) rfl ?_
    refine g_icmp_le_t (t := 19) C dX7_side_13 (by decide) (by decide) ?_
    refine g_aload_n (q := 20) C dX7_side_19 rfl rfl ?_
    refine g_iload_n (q := 21) C dX7_side_20 rfl rfl ?_
    refine g_callVr (q := 24) (As := [.int 0]) C gyX7_sideOf gvX7_sideOf t_832 (c_X7_sideOf_0_c HC HL) dX7_side_21 rfl HC rfl rfl rfl (Nat.le_of_ble_eq_true rfl) (Nat.le_of_ble_eq_true rfl) (Nat.le_of_ble_eq_true rfl) (Nat.le_of_ble_eq_true rfl) (Nat.le_of_ble_eq_true rfl) rfl ?_
    refine g_iload_n (q := 25) C dX7_side_24 rfl rfl ?_
    refine g_callVi (x := (L.rd.tell x)) (q := 28) (As := [.int x]) C gyX5_tell gvX5_tell t_836 (c_X5_tell_s HL.2.1) dX7_side_25 rfl HL.2.1.1 rfl rfl rfl (Nat.le_of_ble_eq_true rfl) (Nat.le_of_ble_eq_true rfl) (Nat.le_of_ble_eq_true rfl) (Nat.le_of_ble_eq_true rfl) (Nat.le_of_ble_eq_true rfl) rfl ?_
    have e : rX7_side_0 ci L x = ((L.rd.tell x)) := (if_neg c_4)
    exact E.1 _ _ _ _ _ _ _ dX7_side_28 rfl rfl (Nat.le_of_ble_eq_true rfl) (Nat.le_of_ble_eq_true rfl) ⟨by rw [e], rfl⟩
def rX7_got_0 (ci : Int32) (L : gLn) (x : Int32) : Int32 := (if ci = 0 then (-2) else (if L.rd.me = 0 then (-2) else (if x < (-1) then (-2) else (if x < (nI L.rd.got.length) then (if x = (-1) then (nI L.rd.got.length) else (gat L.rd.got x)) else (-2)))))
theorem dX7_got_0 : decode cX7_got 0 = .ok (.aload_n 0, 1) := by decide +kernel
theorem dX7_got_1 : decode cX7_got 1 = .ok (.getfield 51, 3) := by decide +kernel
theorem dX7_got_4 : decode cX7_got 4 = .ok (.ifCond .eq 12, 3) := by decide +kernel
theorem dX7_got_7 : decode cX7_got 7 = .ok (.iload_n 1, 1) := by decide +kernel
theorem dX7_got_8 : decode cX7_got 8 = .ok (.ifCond .lt 8, 3) := by decide +kernel
theorem dX7_got_11 : decode cX7_got 11 = .ok (.iload_n 1, 1) := by decide +kernel
theorem dX7_got_12 : decode cX7_got 12 = .ok (.iconst 1, 1) := by decide +kernel
theorem dX7_got_13 : decode cX7_got 13 = .ok (.if_icmp .le 6, 3) := by decide +kernel
theorem dX7_got_16 : decode cX7_got 16 = .ok (.bipush (-2), 2) := by decide +kernel
theorem dX7_got_18 : decode cX7_got 18 = .ok (.ireturn, 1) := by decide +kernel
theorem dX7_got_19 : decode cX7_got 19 = .ok (.aload_n 0, 1) := by decide +kernel
theorem dX7_got_20 : decode cX7_got 20 = .ok (.iload_n 1, 1) := by decide +kernel
theorem dX7_got_21 : decode cX7_got 21 = .ok (.invokevirtual 139, 3) := by decide +kernel
theorem dX7_got_24 : decode cX7_got 24 = .ok (.astore_n 3, 1) := by decide +kernel
theorem dX7_got_25 : decode cX7_got 25 = .ok (.aload_n 3, 1) := by decide +kernel
theorem dX7_got_26 : decode cX7_got 26 = .ok (.getfield 153, 3) := by decide +kernel
theorem dX7_got_29 : decode cX7_got 29 = .ok (.ifCond .eq 19, 3) := by decide +kernel
theorem dX7_got_32 : decode cX7_got 32 = .ok (.iload_n 2, 1) := by decide +kernel
theorem dX7_got_33 : decode cX7_got 33 = .ok (.iconst (-1), 1) := by decide +kernel
theorem dX7_got_34 : decode cX7_got 34 = .ok (.if_icmp .lt 14, 3) := by decide +kernel
theorem dX7_got_37 : decode cX7_got 37 = .ok (.iload_n 2, 1) := by decide +kernel
theorem dX7_got_38 : decode cX7_got 38 = .ok (.aload_n 3, 1) := by decide +kernel
theorem dX7_got_39 : decode cX7_got 39 = .ok (.getfield 156, 3) := by decide +kernel
theorem dX7_got_42 : decode cX7_got 42 = .ok (.invokevirtual 55, 3) := by decide +kernel
theorem dX7_got_45 : decode cX7_got 45 = .ok (.if_icmp .lt 6, 3) := by decide +kernel
theorem dX7_got_48 : decode cX7_got 48 = .ok (.bipush (-2), 2) := by decide +kernel
theorem dX7_got_50 : decode cX7_got 50 = .ok (.ireturn, 1) := by decide +kernel
theorem dX7_got_51 : decode cX7_got 51 = .ok (.iload_n 2, 1) := by decide +kernel
theorem dX7_got_52 : decode cX7_got 52 = .ok (.iconst (-1), 1) := by decide +kernel
theorem dX7_got_53 : decode cX7_got 53 = .ok (.if_icmp .ne 13, 3) := by decide +kernel
theorem dX7_got_56 : decode cX7_got 56 = .ok (.aload_n 3, 1) := by decide +kernel
theorem dX7_got_57 : decode cX7_got 57 = .ok (.getfield 156, 3) := by decide +kernel
theorem dX7_got_60 : decode cX7_got 60 = .ok (.invokevirtual 55, 3) := by decide +kernel
theorem dX7_got_63 : decode cX7_got 63 = .ok (.goto 11, 3) := by decide +kernel
theorem dX7_got_66 : decode cX7_got 66 = .ok (.aload_n 3, 1) := by decide +kernel
theorem dX7_got_67 : decode cX7_got 67 = .ok (.getfield 156, 3) := by decide +kernel
theorem dX7_got_70 : decode cX7_got 70 = .ok (.iload_n 2, 1) := by decide +kernel
theorem dX7_got_71 : decode cX7_got 71 = .ok (.invokevirtual 159, 3) := by decide +kernel
theorem dX7_got_74 : decode cX7_got 74 = .ok (.ireturn, 1) := by decide +kernel
set_option maxRecDepth 100000 in
set_option maxHeartbeats 4000000 in
theorem c_X7_got_0_c {hp : List gA} {ci : Int32} {fi sp : Nat} {L : gLn} {x : Int32}  (HC : hp[0]? = some (gCo fi sp ci)) (HL : gLine hp L)  : gM yX7_got cX7_got 4 ((some .int)) 1 21 [.ref 0, .int 0, .int x] (hp) (0) (0) (fun v h => v = some (.int (rX7_got_0 ci L x)) ∧ h = hp) := by
  refine gM_of (ls0 := [some (.ref 0), some (.int 0), some (.int x), none]) (by decide +kernel) (Nat.le_of_ble_eq_true rfl) rfl fun X C E => ?_
  refine g_aload_n (q := 1) C dX7_got_0 rfl rfl ?_
  refine g_getfield (v := .int ci) (q := 4) C fX7_51 dX7_got_1 rfl HC rfl ?_
  refine g_if_eq (t := 16) (q := 7) C dX7_got_4 (by decide) rfl (fun c_4 => ?_) (fun c_4 => ?_)
  ·
    refine g_bipush (v := (-2)) (q := 18) C dX7_got_16 (by decide) rfl ?_
    have e : rX7_got_0 ci L x = ((-2)) := (if_pos c_4)
    exact E.1 _ _ _ _ _ _ _ dX7_got_18 rfl rfl (Nat.le_of_ble_eq_true rfl) (Nat.le_of_ble_eq_true rfl) ⟨by rw [e], rfl⟩
  ·
    refine g_iload_n (q := 8) C dX7_got_7 rfl rfl ?_
    refine g_if_lt_f (t := 16) (q := 11) C dX7_got_8 (by decide) rfl (by decide) ?_
    refine g_iload_n (q := 12) C dX7_got_11 rfl rfl ?_
    refine g_iconst (v := 1) (q := 13) C dX7_got_12 (by decide) rfl ?_
    refine g_icmp_le_t (t := 19) C dX7_got_13 (by decide) (by decide) ?_
    refine g_aload_n (q := 20) C dX7_got_19 rfl rfl ?_
    refine g_iload_n (q := 21) C dX7_got_20 rfl rfl ?_
    refine g_callVr (q := 24) (As := [.int 0]) C gyX7_sideOf gvX7_sideOf t_832 (c_X7_sideOf_0_c HC HL) dX7_got_21 rfl HC rfl rfl rfl (Nat.le_of_ble_eq_true rfl) (Nat.le_of_ble_eq_true rfl) (Nat.le_of_ble_eq_true rfl) (Nat.le_of_ble_eq_true rfl) (Nat.le_of_ble_eq_true rfl) rfl ?_
    refine g_astore_n (q := 25) C dX7_got_24 (Nat.le_of_ble_eq_true rfl) (by simp only [gset]; rfl) rfl ?_
    refine g_aload_n (q := 26) C dX7_got_25 rfl rfl ?_
    refine g_getfield (v := .int L.rd.me) (q := 29) C fX7_153 dX7_got_26 rfl HL.2.1.1 rfl ?_
    refine g_if_eq (t := 48) (q := 32) C dX7_got_29 (by decide) rfl (fun c_29 => ?_) (fun c_29 => ?_)
    ·
      refine g_bipush (v := (-2)) (q := 50) C dX7_got_48 (by decide) rfl ?_
      have e : rX7_got_0 ci L x = ((-2)) := ((if_neg c_4).trans (if_pos c_29))
      exact E.1 _ _ _ _ _ _ _ dX7_got_50 rfl rfl (Nat.le_of_ble_eq_true rfl) (Nat.le_of_ble_eq_true rfl) ⟨by rw [e], rfl⟩
    ·
      refine g_iload_n (q := 33) C dX7_got_32 rfl rfl ?_
      refine g_iconst (v := (-1)) (q := 34) C dX7_got_33 (by decide) rfl ?_
      refine g_icmp_lt (t := 48) (q := 37) C dX7_got_34 (by decide) rfl (fun c_34 => ?_) (fun c_34 => ?_)
      ·
        refine g_bipush (v := (-2)) (q := 50) C dX7_got_48 (by decide) rfl ?_
        have e : rX7_got_0 ci L x = ((-2)) := ((if_neg c_4).trans ((if_neg c_29).trans (if_pos c_34)))
        exact E.1 _ _ _ _ _ _ _ dX7_got_50 rfl rfl (Nat.le_of_ble_eq_true rfl) (Nat.le_of_ble_eq_true rfl) ⟨by rw [e], rfl⟩
      ·
        refine g_iload_n (q := 38) C dX7_got_37 rfl rfl ?_
        refine g_aload_n (q := 39) C dX7_got_38 rfl rfl ?_
        refine g_getfieldW (v := .ref 24) (q := 42) C fX7_156 dX7_got_39 rfl HL.2.1.1 rfl ?_
        refine g_callVi (x := (nI L.rd.got.length)) (q := 45) (As := []) C gyX4_size gvX4_size t_543 (c_X4_size (gRw.obj HL.2.1.2.2.1)) dX7_got_42 rfl (gRw.obj HL.2.1.2.2.1) rfl rfl rfl (Nat.le_of_ble_eq_true rfl) (Nat.le_of_ble_eq_true rfl) (Nat.le_of_ble_eq_true rfl) (Nat.le_of_ble_eq_true rfl) (Nat.le_of_ble_eq_true rfl) rfl ?_
        refine g_icmp_lt (t := 51) (q := 48) C dX7_got_45 (by decide) rfl (fun c_45 => ?_) (fun c_45 => ?_)
        ·
          refine g_iload_n (q := 52) C dX7_got_51 rfl rfl ?_
          refine g_iconst (v := (-1)) (q := 53) C dX7_got_52 (by decide) rfl ?_
          refine g_icmp_ne (t := 66) (q := 56) C dX7_got_53 (by decide) rfl (fun c_53 => ?_) (fun c_53 => ?_)
          ·
            refine g_aload_n (q := 67) C dX7_got_66 rfl rfl ?_
            refine g_getfieldW (v := .ref 24) (q := 70) C fX7_156 dX7_got_67 rfl HL.2.1.1 rfl ?_
            refine g_iload_n (q := 71) C dX7_got_70 rfl rfl ?_
            refine g_callVi (x := (gat L.rd.got x)) (q := 74) (As := [.int x]) C gyX4_at gvX4_at t_892 (c_X4_at_w HL.2.1.2.2.1) dX7_got_71 rfl (gRw.obj HL.2.1.2.2.1) rfl rfl rfl (Nat.le_of_ble_eq_true rfl) (Nat.le_of_ble_eq_true rfl) (Nat.le_of_ble_eq_true rfl) (Nat.le_of_ble_eq_true rfl) (Nat.le_of_ble_eq_true rfl) rfl ?_
            have e : rX7_got_0 ci L x = ((gat L.rd.got x)) := ((if_neg c_4).trans ((if_neg c_29).trans ((if_neg c_34).trans ((if_pos c_45).trans (if_neg c_53)))))
            exact E.1 _ _ _ _ _ _ _ dX7_got_74 rfl rfl (Nat.le_of_ble_eq_true rfl) (Nat.le_of_ble_eq_true rfl) ⟨by rw [e], rfl⟩
          ·
            refine g_aload_n (q := 57) C dX7_got_56 rfl rfl ?_
            refine g_getfieldW (v := .ref 24) (q := 60) C fX7_156 dX7_got_57 rfl HL.2.1.1 rfl ?_
            refine g_callVi (x := (nI L.rd.got.length)) (q := 63) (As := []) C gyX4_size gvX4_size t_543 (c_X4_size (gRw.obj HL.2.1.2.2.1)) dX7_got_60 rfl (gRw.obj HL.2.1.2.2.1) rfl rfl rfl (Nat.le_of_ble_eq_true rfl) (Nat.le_of_ble_eq_true rfl) (Nat.le_of_ble_eq_true rfl) (Nat.le_of_ble_eq_true rfl) (Nat.le_of_ble_eq_true rfl) rfl ?_
            refine g_goto (q := 74) C dX7_got_63 (by decide) ?_
            have e : rX7_got_0 ci L x = ((nI L.rd.got.length)) := ((if_neg c_4).trans ((if_neg c_29).trans ((if_neg c_34).trans ((if_pos c_45).trans (if_pos c_53)))))
            exact E.1 _ _ _ _ _ _ _ dX7_got_74 rfl rfl (Nat.le_of_ble_eq_true rfl) (Nat.le_of_ble_eq_true rfl) ⟨by rw [e], rfl⟩
        ·
          refine g_bipush (v := (-2)) (q := 50) C dX7_got_48 (by decide) rfl ?_
          have e : rX7_got_0 ci L x = ((-2)) := ((if_neg c_4).trans ((if_neg c_29).trans ((if_neg c_34).trans (if_neg c_45))))
          exact E.1 _ _ _ _ _ _ _ dX7_got_50 rfl rfl (Nat.le_of_ble_eq_true rfl) (Nat.le_of_ble_eq_true rfl) ⟨by rw [e], rfl⟩
def rX7_side_1 (ci : Int32) (L : gLn) (x : Int32) : Int32 := (if ci = 0 then (-2) else (L.cd.tell x))
set_option maxRecDepth 100000 in
set_option maxHeartbeats 4000000 in
theorem c_X7_side_1_c {hp : List gA} {ci : Int32} {fi sp : Nat} {L : gLn} {x : Int32}  (HC : hp[0]? = some (gCo fi sp ci)) (HL : gLine hp L)  : gM yX7_side cX7_side 3 ((some .int)) 2 41 [.ref 0, .int 1, .int x] (hp) (0) (0) (fun v h => v = some (.int (rX7_side_1 ci L x)) ∧ h = hp) := by
  refine gM_of (ls0 := [some (.ref 0), some (.int 1), some (.int x)]) (by decide +kernel) (Nat.le_of_ble_eq_true rfl) rfl fun X C E => ?_
  refine g_aload_n (q := 1) C dX7_side_0 rfl rfl ?_
  refine g_getfield (v := .int ci) (q := 4) C fX7_51 dX7_side_1 rfl HC rfl ?_
  refine g_if_eq (t := 16) (q := 7) C dX7_side_4 (by decide) rfl (fun c_4 => ?_) (fun c_4 => ?_)
  ·
    refine g_bipush (v := (-2)) (q := 18) C dX7_side_16 (by decide) rfl ?_
    have e : rX7_side_1 ci L x = ((-2)) := (if_pos c_4)
    exact E.1 _ _ _ _ _ _ _ dX7_side_18 rfl rfl (Nat.le_of_ble_eq_true rfl) (Nat.le_of_ble_eq_true rfl) ⟨by rw [e], rfl⟩
  ·
    refine g_iload_n (q := 8) C dX7_side_7 rfl rfl ?_
    refine g_if_lt_f (t := 16) (q := 11) C dX7_side_8 (by decide) rfl (by decide) ?_
    refine g_iload_n (q := 12) C dX7_side_11 rfl rfl ?_
    refine g_iconst (v := 1) (q := 13) C dX7_side_12 (by decide) rfl ?_
    refine g_icmp_le_t (t := 19) C dX7_side_13 (by decide) (by decide) ?_
    refine g_aload_n (q := 20) C dX7_side_19 rfl rfl ?_
    refine g_iload_n (q := 21) C dX7_side_20 rfl rfl ?_
    refine g_callVr (q := 24) (As := [.int 1]) C gyX7_sideOf gvX7_sideOf t_832 (c_X7_sideOf_1_c HC HL) dX7_side_21 rfl HC rfl rfl rfl (Nat.le_of_ble_eq_true rfl) (Nat.le_of_ble_eq_true rfl) (Nat.le_of_ble_eq_true rfl) (Nat.le_of_ble_eq_true rfl) (Nat.le_of_ble_eq_true rfl) rfl ?_
    refine g_iload_n (q := 25) C dX7_side_24 rfl rfl ?_
    refine g_callVi (x := (L.cd.tell x)) (q := 28) (As := [.int x]) C gyX5_tell gvX5_tell t_836 (c_X5_tell_s HL.2.2.1) dX7_side_25 rfl HL.2.2.1.1 rfl rfl rfl (Nat.le_of_ble_eq_true rfl) (Nat.le_of_ble_eq_true rfl) (Nat.le_of_ble_eq_true rfl) (Nat.le_of_ble_eq_true rfl) (Nat.le_of_ble_eq_true rfl) rfl ?_
    have e : rX7_side_1 ci L x = ((L.cd.tell x)) := (if_neg c_4)
    exact E.1 _ _ _ _ _ _ _ dX7_side_28 rfl rfl (Nat.le_of_ble_eq_true rfl) (Nat.le_of_ble_eq_true rfl) ⟨by rw [e], rfl⟩
def rX7_got_1 (ci : Int32) (L : gLn) (x : Int32) : Int32 := (if ci = 0 then (-2) else (if L.cd.me = 0 then (-2) else (if x < (-1) then (-2) else (if x < (nI L.cd.got.length) then (if x = (-1) then (nI L.cd.got.length) else (gat L.cd.got x)) else (-2)))))
set_option maxRecDepth 100000 in
set_option maxHeartbeats 4000000 in
theorem c_X7_got_1_c {hp : List gA} {ci : Int32} {fi sp : Nat} {L : gLn} {x : Int32}  (HC : hp[0]? = some (gCo fi sp ci)) (HL : gLine hp L)  : gM yX7_got cX7_got 4 ((some .int)) 1 21 [.ref 0, .int 1, .int x] (hp) (0) (0) (fun v h => v = some (.int (rX7_got_1 ci L x)) ∧ h = hp) := by
  refine gM_of (ls0 := [some (.ref 0), some (.int 1), some (.int x), none]) (by decide +kernel) (Nat.le_of_ble_eq_true rfl) rfl fun X C E => ?_
  refine g_aload_n (q := 1) C dX7_got_0 rfl rfl ?_
  refine g_getfield (v := .int ci) (q := 4) C fX7_51 dX7_got_1 rfl HC rfl ?_
  refine g_if_eq (t := 16) (q := 7) C dX7_got_4 (by decide) rfl (fun c_4 => ?_) (fun c_4 => ?_)
  ·
    refine g_bipush (v := (-2)) (q := 18) C dX7_got_16 (by decide) rfl ?_
    have e : rX7_got_1 ci L x = ((-2)) := (if_pos c_4)
    exact E.1 _ _ _ _ _ _ _ dX7_got_18 rfl rfl (Nat.le_of_ble_eq_true rfl) (Nat.le_of_ble_eq_true rfl) ⟨by rw [e], rfl⟩
  ·
    refine g_iload_n (q := 8) C dX7_got_7 rfl rfl ?_
    refine g_if_lt_f (t := 16) (q := 11) C dX7_got_8 (by decide) rfl (by decide) ?_
    refine g_iload_n (q := 12) C dX7_got_11 rfl rfl ?_
    refine g_iconst (v := 1) (q := 13) C dX7_got_12 (by decide) rfl ?_
    refine g_icmp_le_t (t := 19) C dX7_got_13 (by decide) (by decide) ?_
    refine g_aload_n (q := 20) C dX7_got_19 rfl rfl ?_
    refine g_iload_n (q := 21) C dX7_got_20 rfl rfl ?_
    refine g_callVr (q := 24) (As := [.int 1]) C gyX7_sideOf gvX7_sideOf t_832 (c_X7_sideOf_1_c HC HL) dX7_got_21 rfl HC rfl rfl rfl (Nat.le_of_ble_eq_true rfl) (Nat.le_of_ble_eq_true rfl) (Nat.le_of_ble_eq_true rfl) (Nat.le_of_ble_eq_true rfl) (Nat.le_of_ble_eq_true rfl) rfl ?_
    refine g_astore_n (q := 25) C dX7_got_24 (Nat.le_of_ble_eq_true rfl) (by simp only [gset]; rfl) rfl ?_
    refine g_aload_n (q := 26) C dX7_got_25 rfl rfl ?_
    refine g_getfield (v := .int L.cd.me) (q := 29) C fX7_153 dX7_got_26 rfl HL.2.2.1.1 rfl ?_
    refine g_if_eq (t := 48) (q := 32) C dX7_got_29 (by decide) rfl (fun c_29 => ?_) (fun c_29 => ?_)
    ·
      refine g_bipush (v := (-2)) (q := 50) C dX7_got_48 (by decide) rfl ?_
      have e : rX7_got_1 ci L x = ((-2)) := ((if_neg c_4).trans (if_pos c_29))
      exact E.1 _ _ _ _ _ _ _ dX7_got_50 rfl rfl (Nat.le_of_ble_eq_true rfl) (Nat.le_of_ble_eq_true rfl) ⟨by rw [e], rfl⟩
    ·
      refine g_iload_n (q := 33) C dX7_got_32 rfl rfl ?_
      refine g_iconst (v := (-1)) (q := 34) C dX7_got_33 (by decide) rfl ?_
      refine g_icmp_lt (t := 48) (q := 37) C dX7_got_34 (by decide) rfl (fun c_34 => ?_) (fun c_34 => ?_)
      ·
        refine g_bipush (v := (-2)) (q := 50) C dX7_got_48 (by decide) rfl ?_
        have e : rX7_got_1 ci L x = ((-2)) := ((if_neg c_4).trans ((if_neg c_29).trans (if_pos c_34)))
        exact E.1 _ _ _ _ _ _ _ dX7_got_50 rfl rfl (Nat.le_of_ble_eq_true rfl) (Nat.le_of_ble_eq_true rfl) ⟨by rw [e], rfl⟩
      ·
        refine g_iload_n (q := 38) C dX7_got_37 rfl rfl ?_
        refine g_aload_n (q := 39) C dX7_got_38 rfl rfl ?_
        refine g_getfieldW (v := .ref 31) (q := 42) C fX7_156 dX7_got_39 rfl HL.2.2.1.1 rfl ?_
        refine g_callVi (x := (nI L.cd.got.length)) (q := 45) (As := []) C gyX4_size gvX4_size t_543 (c_X4_size (gRw.obj HL.2.2.1.2.2.1)) dX7_got_42 rfl (gRw.obj HL.2.2.1.2.2.1) rfl rfl rfl (Nat.le_of_ble_eq_true rfl) (Nat.le_of_ble_eq_true rfl) (Nat.le_of_ble_eq_true rfl) (Nat.le_of_ble_eq_true rfl) (Nat.le_of_ble_eq_true rfl) rfl ?_
        refine g_icmp_lt (t := 51) (q := 48) C dX7_got_45 (by decide) rfl (fun c_45 => ?_) (fun c_45 => ?_)
        ·
          refine g_iload_n (q := 52) C dX7_got_51 rfl rfl ?_
          refine g_iconst (v := (-1)) (q := 53) C dX7_got_52 (by decide) rfl ?_
          refine g_icmp_ne (t := 66) (q := 56) C dX7_got_53 (by decide) rfl (fun c_53 => ?_) (fun c_53 => ?_)
          ·
            refine g_aload_n (q := 67) C dX7_got_66 rfl rfl ?_
            refine g_getfieldW (v := .ref 31) (q := 70) C fX7_156 dX7_got_67 rfl HL.2.2.1.1 rfl ?_
            refine g_iload_n (q := 71) C dX7_got_70 rfl rfl ?_
            refine g_callVi (x := (gat L.cd.got x)) (q := 74) (As := [.int x]) C gyX4_at gvX4_at t_892 (c_X4_at_w HL.2.2.1.2.2.1) dX7_got_71 rfl (gRw.obj HL.2.2.1.2.2.1) rfl rfl rfl (Nat.le_of_ble_eq_true rfl) (Nat.le_of_ble_eq_true rfl) (Nat.le_of_ble_eq_true rfl) (Nat.le_of_ble_eq_true rfl) (Nat.le_of_ble_eq_true rfl) rfl ?_
            have e : rX7_got_1 ci L x = ((gat L.cd.got x)) := ((if_neg c_4).trans ((if_neg c_29).trans ((if_neg c_34).trans ((if_pos c_45).trans (if_neg c_53)))))
            exact E.1 _ _ _ _ _ _ _ dX7_got_74 rfl rfl (Nat.le_of_ble_eq_true rfl) (Nat.le_of_ble_eq_true rfl) ⟨by rw [e], rfl⟩
          ·
            refine g_aload_n (q := 57) C dX7_got_56 rfl rfl ?_
            refine g_getfieldW (v := .ref 31) (q := 60) C fX7_156 dX7_got_57 rfl HL.2.2.1.1 rfl ?_
            refine g_callVi (x := (nI L.cd.got.length)) (q := 63) (As := []) C gyX4_size gvX4_size t_543 (c_X4_size (gRw.obj HL.2.2.1.2.2.1)) dX7_got_60 rfl (gRw.obj HL.2.2.1.2.2.1) rfl rfl rfl (Nat.le_of_ble_eq_true rfl) (Nat.le_of_ble_eq_true rfl) (Nat.le_of_ble_eq_true rfl) (Nat.le_of_ble_eq_true rfl) (Nat.le_of_ble_eq_true rfl) rfl ?_
            refine g_goto (q := 74) C dX7_got_63 (by decide) ?_
            have e : rX7_got_1 ci L x = ((nI L.cd.got.length)) := ((if_neg c_4).trans ((if_neg c_29).trans ((if_neg c_34).trans ((if_pos c_45).trans (if_pos c_53)))))
            exact E.1 _ _ _ _ _ _ _ dX7_got_74 rfl rfl (Nat.le_of_ble_eq_true rfl) (Nat.le_of_ble_eq_true rfl) ⟨by rw [e], rfl⟩
        ·
          refine g_bipush (v := (-2)) (q := 50) C dX7_got_48 (by decide) rfl ?_
          have e : rX7_got_1 ci L x = ((-2)) := ((if_neg c_4).trans ((if_neg c_29).trans ((if_neg c_34).trans (if_neg c_45))))
          exact E.1 _ _ _ _ _ _ _ dX7_got_50 rfl rfl (Nat.le_of_ble_eq_true rfl) (Nat.le_of_ble_eq_true rfl) ⟨by rw [e], rfl⟩
def rX7_log_1 (ci : Int32) (J : gJr) (x : Int32) : Int32 := (jX1_tell J x 1)
theorem dX7_log_0 : decode cX7_log 0 = .ok (.iload_n 1, 1) := by decide +kernel
theorem dX7_log_1 : decode cX7_log 1 = .ok (.ifCond .lt 23, 3) := by decide +kernel
theorem dX7_log_4 : decode cX7_log 4 = .ok (.iload_n 1, 1) := by decide +kernel
theorem dX7_log_5 : decode cX7_log 5 = .ok (.aload_n 0, 1) := by decide +kernel
theorem dX7_log_6 : decode cX7_log 6 = .ok (.getfield 21, 3) := by decide +kernel
theorem dX7_log_9 : decode cX7_log 9 = .ok (.invokevirtual 162, 3) := by decide +kernel
theorem dX7_log_12 : decode cX7_log 12 = .ok (.if_icmp .ge 12, 3) := by decide +kernel
theorem dX7_log_15 : decode cX7_log 15 = .ok (.iload_n 2, 1) := by decide +kernel
theorem dX7_log_16 : decode cX7_log 16 = .ok (.ifCond .lt 8, 3) := by decide +kernel
theorem dX7_log_19 : decode cX7_log 19 = .ok (.iload_n 2, 1) := by decide +kernel
theorem dX7_log_20 : decode cX7_log 20 = .ok (.iconst 5, 1) := by decide +kernel
theorem dX7_log_21 : decode cX7_log 21 = .ok (.if_icmp .le 11, 3) := by decide +kernel
theorem dX7_log_32 : decode cX7_log 32 = .ok (.aload_n 0, 1) := by decide +kernel
theorem dX7_log_33 : decode cX7_log 33 = .ok (.getfield 21, 3) := by decide +kernel
theorem dX7_log_36 : decode cX7_log 36 = .ok (.iload_n 1, 1) := by decide +kernel
theorem dX7_log_37 : decode cX7_log 37 = .ok (.iload_n 2, 1) := by decide +kernel
theorem dX7_log_38 : decode cX7_log 38 = .ok (.invokevirtual 168, 3) := by decide +kernel
theorem dX7_log_41 : decode cX7_log 41 = .ok (.ireturn, 1) := by decide +kernel
set_option maxRecDepth 100000 in
set_option maxHeartbeats 4000000 in
theorem c_X7_log_1_c {hp : List gA} {ci : Int32} {fi sp : Nat} {J : gJr} {x : Int32}  (HC : hp[0]? = some (gCo fi sp ci)) (HJ : gJn hp J) (h0 : ¬ x < 0) (h1 : ¬ nI (J.l 5).length ≤ x) : gM yX7_log cX7_log 3 ((some .int)) 2 60 [.ref 0, .int x, .int 1] (hp) (0) (0) (fun v h => v = some (.int (rX7_log_1 ci J x)) ∧ h = hp) := by
  refine gM_of (ls0 := [some (.ref 0), some (.int x), some (.int 1)]) (by decide +kernel) (Nat.le_of_ble_eq_true rfl) rfl fun X C E => ?_
  refine g_iload_n (q := 1) C dX7_log_0 rfl rfl ?_
  refine g_if_lt_f (t := 24) (q := 4) C dX7_log_1 (by decide) rfl h0 ?_
  refine g_iload_n (q := 5) C dX7_log_4 rfl rfl ?_
  refine g_aload_n (q := 6) C dX7_log_5 rfl rfl ?_
  refine g_getfield (v := .ref 3) (q := 9) C fX7_21 dX7_log_6 rfl HC rfl ?_
  refine g_callVi (x := (jX1_kept J)) (q := 12) (As := []) C gyX1_kept gvX1_kept t_848 (c_X1_kept_j HJ) dX7_log_9 rfl HJ.1 rfl rfl rfl (Nat.le_of_ble_eq_true rfl) (Nat.le_of_ble_eq_true rfl) (Nat.le_of_ble_eq_true rfl) (Nat.le_of_ble_eq_true rfl) (Nat.le_of_ble_eq_true rfl) rfl ?_
  refine g_icmp_ge_f (t := 24) (q := 15) C dX7_log_12 (by decide) rfl h1 ?_
  refine g_iload_n (q := 16) C dX7_log_15 rfl rfl ?_
  refine g_if_lt_f (t := 24) (q := 19) C dX7_log_16 (by decide) rfl (by decide) ?_
  refine g_iload_n (q := 20) C dX7_log_19 rfl rfl ?_
  refine g_iconst (v := 5) (q := 21) C dX7_log_20 (by decide) rfl ?_
  refine g_icmp_le_t (t := 32) C dX7_log_21 (by decide) (by decide) ?_
  refine g_aload_n (q := 33) C dX7_log_32 rfl rfl ?_
  refine g_getfield (v := .ref 3) (q := 36) C fX7_21 dX7_log_33 rfl HC rfl ?_
  refine g_iload_n (q := 37) C dX7_log_36 rfl rfl ?_
  refine g_iload_n (q := 38) C dX7_log_37 rfl rfl ?_
  refine g_callVi (x := (jX1_tell J x 1)) (q := 41) (As := [.int x, .int 1]) C gyX1_tell gvX1_tell t_973 (c_X1_tell_j HJ) dX7_log_38 rfl HJ.1 rfl rfl rfl (Nat.le_of_ble_eq_true rfl) (Nat.le_of_ble_eq_true rfl) (Nat.le_of_ble_eq_true rfl) (Nat.le_of_ble_eq_true rfl) (Nat.le_of_ble_eq_true rfl) rfl ?_
  have e : rX7_log_1 ci J x = ((jX1_tell J x 1)) := rfl
  exact E.1 _ _ _ _ _ _ _ dX7_log_41 rfl rfl (Nat.le_of_ble_eq_true rfl) (Nat.le_of_ble_eq_true rfl) ⟨by rw [e], rfl⟩
def rX7_log_2 (ci : Int32) (J : gJr) (x : Int32) : Int32 := (jX1_tell J x 2)
set_option maxRecDepth 100000 in
set_option maxHeartbeats 4000000 in
theorem c_X7_log_2_c {hp : List gA} {ci : Int32} {fi sp : Nat} {J : gJr} {x : Int32}  (HC : hp[0]? = some (gCo fi sp ci)) (HJ : gJn hp J) (h0 : ¬ x < 0) (h1 : ¬ nI (J.l 5).length ≤ x) : gM yX7_log cX7_log 3 ((some .int)) 2 60 [.ref 0, .int x, .int 2] (hp) (0) (0) (fun v h => v = some (.int (rX7_log_2 ci J x)) ∧ h = hp) := by
  refine gM_of (ls0 := [some (.ref 0), some (.int x), some (.int 2)]) (by decide +kernel) (Nat.le_of_ble_eq_true rfl) rfl fun X C E => ?_
  refine g_iload_n (q := 1) C dX7_log_0 rfl rfl ?_
  refine g_if_lt_f (t := 24) (q := 4) C dX7_log_1 (by decide) rfl h0 ?_
  refine g_iload_n (q := 5) C dX7_log_4 rfl rfl ?_
  refine g_aload_n (q := 6) C dX7_log_5 rfl rfl ?_
  refine g_getfield (v := .ref 3) (q := 9) C fX7_21 dX7_log_6 rfl HC rfl ?_
  refine g_callVi (x := (jX1_kept J)) (q := 12) (As := []) C gyX1_kept gvX1_kept t_848 (c_X1_kept_j HJ) dX7_log_9 rfl HJ.1 rfl rfl rfl (Nat.le_of_ble_eq_true rfl) (Nat.le_of_ble_eq_true rfl) (Nat.le_of_ble_eq_true rfl) (Nat.le_of_ble_eq_true rfl) (Nat.le_of_ble_eq_true rfl) rfl ?_
  refine g_icmp_ge_f (t := 24) (q := 15) C dX7_log_12 (by decide) rfl h1 ?_
  refine g_iload_n (q := 16) C dX7_log_15 rfl rfl ?_
  refine g_if_lt_f (t := 24) (q := 19) C dX7_log_16 (by decide) rfl (by decide) ?_
  refine g_iload_n (q := 20) C dX7_log_19 rfl rfl ?_
  refine g_iconst (v := 5) (q := 21) C dX7_log_20 (by decide) rfl ?_
  refine g_icmp_le_t (t := 32) C dX7_log_21 (by decide) (by decide) ?_
  refine g_aload_n (q := 33) C dX7_log_32 rfl rfl ?_
  refine g_getfield (v := .ref 3) (q := 36) C fX7_21 dX7_log_33 rfl HC rfl ?_
  refine g_iload_n (q := 37) C dX7_log_36 rfl rfl ?_
  refine g_iload_n (q := 38) C dX7_log_37 rfl rfl ?_
  refine g_callVi (x := (jX1_tell J x 2)) (q := 41) (As := [.int x, .int 2]) C gyX1_tell gvX1_tell t_973 (c_X1_tell_j HJ) dX7_log_38 rfl HJ.1 rfl rfl rfl (Nat.le_of_ble_eq_true rfl) (Nat.le_of_ble_eq_true rfl) (Nat.le_of_ble_eq_true rfl) (Nat.le_of_ble_eq_true rfl) (Nat.le_of_ble_eq_true rfl) rfl ?_
  have e : rX7_log_2 ci J x = ((jX1_tell J x 2)) := rfl
  exact E.1 _ _ _ _ _ _ _ dX7_log_41 rfl rfl (Nat.le_of_ble_eq_true rfl) (Nat.le_of_ble_eq_true rfl) ⟨by rw [e], rfl⟩
def rX7_log_4 (ci : Int32) (J : gJr) (x : Int32) : Int32 := (jX1_tell J x 4)
set_option maxRecDepth 100000 in
set_option maxHeartbeats 4000000 in
theorem c_X7_log_4_c {hp : List gA} {ci : Int32} {fi sp : Nat} {J : gJr} {x : Int32}  (HC : hp[0]? = some (gCo fi sp ci)) (HJ : gJn hp J) (h0 : ¬ x < 0) (h1 : ¬ nI (J.l 5).length ≤ x) : gM yX7_log cX7_log 3 ((some .int)) 2 60 [.ref 0, .int x, .int 4] (hp) (0) (0) (fun v h => v = some (.int (rX7_log_4 ci J x)) ∧ h = hp) := by
  refine gM_of (ls0 := [some (.ref 0), some (.int x), some (.int 4)]) (by decide +kernel) (Nat.le_of_ble_eq_true rfl) rfl fun X C E => ?_
  refine g_iload_n (q := 1) C dX7_log_0 rfl rfl ?_
  refine g_if_lt_f (t := 24) (q := 4) C dX7_log_1 (by decide) rfl h0 ?_
  refine g_iload_n (q := 5) C dX7_log_4 rfl rfl ?_
  refine g_aload_n (q := 6) C dX7_log_5 rfl rfl ?_
  refine g_getfield (v := .ref 3) (q := 9) C fX7_21 dX7_log_6 rfl HC rfl ?_
  refine g_callVi (x := (jX1_kept J)) (q := 12) (As := []) C gyX1_kept gvX1_kept t_848 (c_X1_kept_j HJ) dX7_log_9 rfl HJ.1 rfl rfl rfl (Nat.le_of_ble_eq_true rfl) (Nat.le_of_ble_eq_true rfl) (Nat.le_of_ble_eq_true rfl) (Nat.le_of_ble_eq_true rfl) (Nat.le_of_ble_eq_true rfl) rfl ?_
  refine g_icmp_ge_f (t := 24) (q := 15) C dX7_log_12 (by decide) rfl h1 ?_
  refine g_iload_n (q := 16) C dX7_log_15 rfl rfl ?_
  refine g_if_lt_f (t := 24) (q := 19) C dX7_log_16 (by decide) rfl (by decide) ?_
  refine g_iload_n (q := 20) C dX7_log_19 rfl rfl ?_
  refine g_iconst (v := 5) (q := 21) C dX7_log_20 (by decide) rfl ?_
  refine g_icmp_le_t (t := 32) C dX7_log_21 (by decide) (by decide) ?_
  refine g_aload_n (q := 33) C dX7_log_32 rfl rfl ?_
  refine g_getfield (v := .ref 3) (q := 36) C fX7_21 dX7_log_33 rfl HC rfl ?_
  refine g_iload_n (q := 37) C dX7_log_36 rfl rfl ?_
  refine g_iload_n (q := 38) C dX7_log_37 rfl rfl ?_
  refine g_callVi (x := (jX1_tell J x 4)) (q := 41) (As := [.int x, .int 4]) C gyX1_tell gvX1_tell t_973 (c_X1_tell_j HJ) dX7_log_38 rfl HJ.1 rfl rfl rfl (Nat.le_of_ble_eq_true rfl) (Nat.le_of_ble_eq_true rfl) (Nat.le_of_ble_eq_true rfl) (Nat.le_of_ble_eq_true rfl) (Nat.le_of_ble_eq_true rfl) rfl ?_
  have e : rX7_log_4 ci J x = ((jX1_tell J x 4)) := rfl
  exact E.1 _ _ _ _ _ _ _ dX7_log_41 rfl rfl (Nat.le_of_ble_eq_true rfl) (Nat.le_of_ble_eq_true rfl) ⟨by rw [e], rfl⟩
def rX7_log_5 (ci : Int32) (J : gJr) (x : Int32) : Int32 := (jX1_tell J x 5)
set_option maxRecDepth 100000 in
set_option maxHeartbeats 4000000 in
theorem c_X7_log_5_c {hp : List gA} {ci : Int32} {fi sp : Nat} {J : gJr} {x : Int32}  (HC : hp[0]? = some (gCo fi sp ci)) (HJ : gJn hp J) (h0 : ¬ x < 0) (h1 : ¬ nI (J.l 5).length ≤ x) : gM yX7_log cX7_log 3 ((some .int)) 2 60 [.ref 0, .int x, .int 5] (hp) (0) (0) (fun v h => v = some (.int (rX7_log_5 ci J x)) ∧ h = hp) := by
  refine gM_of (ls0 := [some (.ref 0), some (.int x), some (.int 5)]) (by decide +kernel) (Nat.le_of_ble_eq_true rfl) rfl fun X C E => ?_
  refine g_iload_n (q := 1) C dX7_log_0 rfl rfl ?_
  refine g_if_lt_f (t := 24) (q := 4) C dX7_log_1 (by decide) rfl h0 ?_
  refine g_iload_n (q := 5) C dX7_log_4 rfl rfl ?_
  refine g_aload_n (q := 6) C dX7_log_5 rfl rfl ?_
  refine g_getfield (v := .ref 3) (q := 9) C fX7_21 dX7_log_6 rfl HC rfl ?_
  refine g_callVi (x := (jX1_kept J)) (q := 12) (As := []) C gyX1_kept gvX1_kept t_848 (c_X1_kept_j HJ) dX7_log_9 rfl HJ.1 rfl rfl rfl (Nat.le_of_ble_eq_true rfl) (Nat.le_of_ble_eq_true rfl) (Nat.le_of_ble_eq_true rfl) (Nat.le_of_ble_eq_true rfl) (Nat.le_of_ble_eq_true rfl) rfl ?_
  refine g_icmp_ge_f (t := 24) (q := 15) C dX7_log_12 (by decide) rfl h1 ?_
  refine g_iload_n (q := 16) C dX7_log_15 rfl rfl ?_
  refine g_if_lt_f (t := 24) (q := 19) C dX7_log_16 (by decide) rfl (by decide) ?_
  refine g_iload_n (q := 20) C dX7_log_19 rfl rfl ?_
  refine g_iconst (v := 5) (q := 21) C dX7_log_20 (by decide) rfl ?_
  refine g_icmp_le_t (t := 32) C dX7_log_21 (by decide) (by decide) ?_
  refine g_aload_n (q := 33) C dX7_log_32 rfl rfl ?_
  refine g_getfield (v := .ref 3) (q := 36) C fX7_21 dX7_log_33 rfl HC rfl ?_
  refine g_iload_n (q := 37) C dX7_log_36 rfl rfl ?_
  refine g_iload_n (q := 38) C dX7_log_37 rfl rfl ?_
  refine g_callVi (x := (jX1_tell J x 5)) (q := 41) (As := [.int x, .int 5]) C gyX1_tell gvX1_tell t_973 (c_X1_tell_j HJ) dX7_log_38 rfl HJ.1 rfl rfl rfl (Nat.le_of_ble_eq_true rfl) (Nat.le_of_ble_eq_true rfl) (Nat.le_of_ble_eq_true rfl) (Nat.le_of_ble_eq_true rfl) (Nat.le_of_ble_eq_true rfl) rfl ?_
  have e : rX7_log_5 ci J x = ((jX1_tell J x 5)) := rfl
  exact E.1 _ _ _ _ _ _ _ dX7_log_41 rfl rfl (Nat.le_of_ble_eq_true rfl) (Nat.le_of_ble_eq_true rfl) ⟨by rw [e], rfl⟩
def rX7_byteOf (ci : Int32) (J : gJr) (x : Int32) (y : Int32) : Int32 := (if x < 0 then (-1) else (if x < (jX1_kept J) then (jX1_byteAt J x y) else (-1)))
theorem dX7_byteOf_0 : decode cX7_byteOf 0 = .ok (.iload_n 1, 1) := by decide +kernel
theorem dX7_byteOf_1 : decode cX7_byteOf 1 = .ok (.ifCond .lt 14, 3) := by decide +kernel
theorem dX7_byteOf_4 : decode cX7_byteOf 4 = .ok (.iload_n 1, 1) := by decide +kernel
theorem dX7_byteOf_5 : decode cX7_byteOf 5 = .ok (.aload_n 0, 1) := by decide +kernel
theorem dX7_byteOf_6 : decode cX7_byteOf 6 = .ok (.getfield 21, 3) := by decide +kernel
theorem dX7_byteOf_9 : decode cX7_byteOf 9 = .ok (.invokevirtual 162, 3) := by decide +kernel
theorem dX7_byteOf_12 : decode cX7_byteOf 12 = .ok (.if_icmp .lt 5, 3) := by decide +kernel
theorem dX7_byteOf_15 : decode cX7_byteOf 15 = .ok (.iconst (-1), 1) := by decide +kernel
theorem dX7_byteOf_16 : decode cX7_byteOf 16 = .ok (.ireturn, 1) := by decide +kernel
theorem dX7_byteOf_17 : decode cX7_byteOf 17 = .ok (.aload_n 0, 1) := by decide +kernel
theorem dX7_byteOf_18 : decode cX7_byteOf 18 = .ok (.getfield 21, 3) := by decide +kernel
theorem dX7_byteOf_21 : decode cX7_byteOf 21 = .ok (.iload_n 1, 1) := by decide +kernel
theorem dX7_byteOf_22 : decode cX7_byteOf 22 = .ok (.iload_n 2, 1) := by decide +kernel
theorem dX7_byteOf_23 : decode cX7_byteOf 23 = .ok (.invokevirtual 171, 3) := by decide +kernel
theorem dX7_byteOf_26 : decode cX7_byteOf 26 = .ok (.ireturn, 1) := by decide +kernel
set_option maxRecDepth 100000 in
set_option maxHeartbeats 4000000 in
theorem c_X7_byteOf_c {hp : List gA} {ci : Int32} {fi sp : Nat} {J : gJr} {x : Int32} {y : Int32}  (HC : hp[0]? = some (gCo fi sp ci)) (HJ : gJn hp J)  : gM yX7_byteOf cX7_byteOf 3 ((some .int)) 2 45 [.ref 0, .int x, .int y] (hp) (0) (0) (fun v h => v = some (.int (rX7_byteOf ci J x y)) ∧ h = hp) := by
  refine gM_of (ls0 := [some (.ref 0), some (.int x), some (.int y)]) (by decide +kernel) (Nat.le_of_ble_eq_true rfl) rfl fun X C E => ?_
  refine g_iload_n (q := 1) C dX7_byteOf_0 rfl rfl ?_
  refine g_if_lt (t := 15) (q := 4) C dX7_byteOf_1 (by decide) rfl (fun c_1 => ?_) (fun c_1 => ?_)
  ·
    refine g_iconst (v := (-1)) (q := 16) C dX7_byteOf_15 (by decide) rfl ?_
    have e : rX7_byteOf ci J x y = ((-1)) := (if_pos c_1)
    exact E.1 _ _ _ _ _ _ _ dX7_byteOf_16 rfl rfl (Nat.le_of_ble_eq_true rfl) (Nat.le_of_ble_eq_true rfl) ⟨by rw [e], rfl⟩
  ·
    refine g_iload_n (q := 5) C dX7_byteOf_4 rfl rfl ?_
    refine g_aload_n (q := 6) C dX7_byteOf_5 rfl rfl ?_
    refine g_getfield (v := .ref 3) (q := 9) C fX7_21 dX7_byteOf_6 rfl HC rfl ?_
    refine g_callVi (x := (jX1_kept J)) (q := 12) (As := []) C gyX1_kept gvX1_kept t_848 (c_X1_kept_j HJ) dX7_byteOf_9 rfl HJ.1 rfl rfl rfl (Nat.le_of_ble_eq_true rfl) (Nat.le_of_ble_eq_true rfl) (Nat.le_of_ble_eq_true rfl) (Nat.le_of_ble_eq_true rfl) (Nat.le_of_ble_eq_true rfl) rfl ?_
    refine g_icmp_lt (t := 17) (q := 15) C dX7_byteOf_12 (by decide) rfl (fun c_12 => ?_) (fun c_12 => ?_)
    ·
      refine g_aload_n (q := 18) C dX7_byteOf_17 rfl rfl ?_
      refine g_getfield (v := .ref 3) (q := 21) C fX7_21 dX7_byteOf_18 rfl HC rfl ?_
      refine g_iload_n (q := 22) C dX7_byteOf_21 rfl rfl ?_
      refine g_iload_n (q := 23) C dX7_byteOf_22 rfl rfl ?_
      refine g_callVi (x := (jX1_byteAt J x y)) (q := 26) (As := [.int x, .int y]) C gyX1_byteAt gvX1_byteAt t_900 (c_X1_byteAt_j HJ) dX7_byteOf_23 rfl HJ.1 rfl rfl rfl (Nat.le_of_ble_eq_true rfl) (Nat.le_of_ble_eq_true rfl) (Nat.le_of_ble_eq_true rfl) (Nat.le_of_ble_eq_true rfl) (Nat.le_of_ble_eq_true rfl) rfl ?_
      have e : rX7_byteOf ci J x y = ((jX1_byteAt J x y)) := ((if_neg c_1).trans (if_pos c_12))
      exact E.1 _ _ _ _ _ _ _ dX7_byteOf_26 rfl rfl (Nat.le_of_ble_eq_true rfl) (Nat.le_of_ble_eq_true rfl) ⟨by rw [e], rfl⟩
    ·
      refine g_iconst (v := (-1)) (q := 16) C dX7_byteOf_15 (by decide) rfl ?_
      have e : rX7_byteOf ci J x y = ((-1)) := ((if_neg c_1).trans (if_neg c_12))
      exact E.1 _ _ _ _ _ _ _ dX7_byteOf_16 rfl rfl (Nat.le_of_ble_eq_true rfl) (Nat.le_of_ble_eq_true rfl) ⟨by rw [e], rfl⟩
def rX7_count_0 (ci : Int32) (L : gLn) (R Lt A m : Nat) : Int32 := (nI Lt)
theorem dX7_count_0 : decode cX7_count 0 = .ok (.iload_n 1, 1) := by decide +kernel
theorem dX7_count_1 : decode cX7_count 1 = .ok (.tableswitch 159 0 10 #[59, 70, 81, 92, 100, 108, 116, 127, 135, 143, 151], 59) := by decide +kernel
theorem dX7_count_60 : decode cX7_count 60 = .ok (.aload_n 0, 1) := by decide +kernel
theorem dX7_count_61 : decode cX7_count 61 = .ok (.getfield 30, 3) := by decide +kernel
theorem dX7_count_64 : decode cX7_count 64 = .ok (.getfield 114, 3) := by decide +kernel
theorem dX7_count_67 : decode cX7_count 67 = .ok (.getfield 181, 3) := by decide +kernel
theorem dX7_count_70 : decode cX7_count 70 = .ok (.ireturn, 1) := by decide +kernel
set_option maxRecDepth 100000 in
set_option maxHeartbeats 4000000 in
theorem c_X7_count_0_c {hp : List gA} {ci : Int32} {fi sp : Nat} {L : gLn} {R Lt A m : Nat}  (HC : hp[0]? = some (gCo fi sp ci)) (HL : gLine hp L) (HW : gWire hp 35 (nI R) (nI Lt) (nI A) m)  : gM yX7_count cX7_count 2 ((some .int)) 2 40 [.ref 0, .int 0] (hp) (0) (0) (fun v h => v = some (.int (rX7_count_0 ci L R Lt A m)) ∧ h = hp) := by
  refine gM_of (ls0 := [some (.ref 0), some (.int 0)]) (by decide +kernel) (Nat.le_of_ble_eq_true rfl) rfl fun X C E => ?_
  obtain ⟨fl, fk, fb, pk, bn, hw, -⟩ := id HW
  refine g_iload_n (q := 1) C dX7_count_0 rfl rfl ?_
  refine g_tableE (v := 0) (off := 59) (t := 60) C dX7_count_1 rfl (by decide) (by decide) (by decide) (by decide) ?_
  refine g_aload_n (q := 61) C dX7_count_60 rfl rfl ?_
  refine g_getfield (v := .ref 20) (q := 64) C fX7_30 dX7_count_61 rfl HC rfl ?_
  refine g_getfieldW (v := .ref 35) (q := 67) C fX7_114 dX7_count_64 rfl HL.1 rfl ?_
  refine g_getfield (v := .int ((nI Lt))) (q := 70) C fX7_181 dX7_count_67 rfl hw rfl ?_
  have e : rX7_count_0 ci L R Lt A m = ((nI Lt)) := rfl
  exact E.1 _ _ _ _ _ _ _ dX7_count_70 rfl rfl (Nat.le_of_ble_eq_true rfl) (Nat.le_of_ble_eq_true rfl) ⟨by rw [e], rfl⟩
def rX7_count_1 (ci : Int32) (L : gLn) (R Lt A m : Nat) : Int32 := (nI A)
theorem dX7_count_71 : decode cX7_count 71 = .ok (.aload_n 0, 1) := by decide +kernel
theorem dX7_count_72 : decode cX7_count 72 = .ok (.getfield 30, 3) := by decide +kernel
theorem dX7_count_75 : decode cX7_count 75 = .ok (.getfield 114, 3) := by decide +kernel
theorem dX7_count_78 : decode cX7_count 78 = .ok (.getfield 194, 3) := by decide +kernel
theorem dX7_count_81 : decode cX7_count 81 = .ok (.ireturn, 1) := by decide +kernel
set_option maxRecDepth 100000 in
set_option maxHeartbeats 4000000 in
theorem c_X7_count_1_c {hp : List gA} {ci : Int32} {fi sp : Nat} {L : gLn} {R Lt A m : Nat}  (HC : hp[0]? = some (gCo fi sp ci)) (HL : gLine hp L) (HW : gWire hp 35 (nI R) (nI Lt) (nI A) m)  : gM yX7_count cX7_count 2 ((some .int)) 2 40 [.ref 0, .int 1] (hp) (0) (0) (fun v h => v = some (.int (rX7_count_1 ci L R Lt A m)) ∧ h = hp) := by
  refine gM_of (ls0 := [some (.ref 0), some (.int 1)]) (by decide +kernel) (Nat.le_of_ble_eq_true rfl) rfl fun X C E => ?_
  obtain ⟨fl, fk, fb, pk, bn, hw, -⟩ := id HW
  refine g_iload_n (q := 1) C dX7_count_0 rfl rfl ?_
  refine g_tableE (v := 1) (off := 70) (t := 71) C dX7_count_1 rfl (by decide) (by decide) (by decide) (by decide) ?_
  refine g_aload_n (q := 72) C dX7_count_71 rfl rfl ?_
  refine g_getfield (v := .ref 20) (q := 75) C fX7_30 dX7_count_72 rfl HC rfl ?_
  refine g_getfieldW (v := .ref 35) (q := 78) C fX7_114 dX7_count_75 rfl HL.1 rfl ?_
  refine g_getfield (v := .int ((nI A))) (q := 81) C fX7_194 dX7_count_78 rfl hw rfl ?_
  have e : rX7_count_1 ci L R Lt A m = ((nI A)) := rfl
  exact E.1 _ _ _ _ _ _ _ dX7_count_81 rfl rfl (Nat.le_of_ble_eq_true rfl) (Nat.le_of_ble_eq_true rfl) ⟨by rw [e], rfl⟩
def rX7_count_2 (ci : Int32) (L : gLn) (R Lt A m : Nat) : Int32 := (nI m)
theorem dX7_count_82 : decode cX7_count 82 = .ok (.aload_n 0, 1) := by decide +kernel
theorem dX7_count_83 : decode cX7_count 83 = .ok (.getfield 30, 3) := by decide +kernel
theorem dX7_count_86 : decode cX7_count 86 = .ok (.getfield 114, 3) := by decide +kernel
theorem dX7_count_89 : decode cX7_count 89 = .ok (.invokevirtual 127, 3) := by decide +kernel
theorem dX7_count_92 : decode cX7_count 92 = .ok (.ireturn, 1) := by decide +kernel
set_option maxRecDepth 100000 in
set_option maxHeartbeats 4000000 in
theorem c_X7_count_2_c {hp : List gA} {ci : Int32} {fi sp : Nat} {L : gLn} {R Lt A m : Nat}  (HC : hp[0]? = some (gCo fi sp ci)) (HL : gLine hp L) (HW : gWire hp 35 (nI R) (nI Lt) (nI A) m)  : gM yX7_count cX7_count 2 ((some .int)) 2 40 [.ref 0, .int 2] (hp) (0) (0) (fun v h => v = some (.int (rX7_count_2 ci L R Lt A m)) ∧ h = hp) := by
  refine gM_of (ls0 := [some (.ref 0), some (.int 2)]) (by decide +kernel) (Nat.le_of_ble_eq_true rfl) rfl fun X C E => ?_
  obtain ⟨fl, fk, fb, pk, bn, hw, -⟩ := id HW
  refine g_iload_n (q := 1) C dX7_count_0 rfl rfl ?_
  refine g_tableE (v := 2) (off := 81) (t := 82) C dX7_count_1 rfl (by decide) (by decide) (by decide) (by decide) ?_
  refine g_aload_n (q := 83) C dX7_count_82 rfl rfl ?_
  refine g_getfield (v := .ref 20) (q := 86) C fX7_30 dX7_count_83 rfl HC rfl ?_
  refine g_getfieldW (v := .ref 35) (q := 89) C fX7_114 dX7_count_86 rfl HL.1 rfl ?_
  refine g_callVi (x := (nI m)) (q := 92) (As := []) C gyX6_faults gvX6_faults t_587 (c_X6_faults_w HW) dX7_count_89 rfl hw rfl rfl rfl (Nat.le_of_ble_eq_true rfl) (Nat.le_of_ble_eq_true rfl) (Nat.le_of_ble_eq_true rfl) (Nat.le_of_ble_eq_true rfl) (Nat.le_of_ble_eq_true rfl) rfl ?_
  have e : rX7_count_2 ci L R Lt A m = ((nI m)) := rfl
  exact E.1 _ _ _ _ _ _ _ dX7_count_92 rfl rfl (Nat.le_of_ble_eq_true rfl) (Nat.le_of_ble_eq_true rfl) ⟨by rw [e], rfl⟩
def rX7_count_3 (ci : Int32) (L : gLn) : Int32 := L.tr
theorem dX7_count_93 : decode cX7_count 93 = .ok (.aload_n 0, 1) := by decide +kernel
theorem dX7_count_94 : decode cX7_count 94 = .ok (.getfield 30, 3) := by decide +kernel
theorem dX7_count_97 : decode cX7_count 97 = .ok (.getfield 197, 3) := by decide +kernel
theorem dX7_count_100 : decode cX7_count 100 = .ok (.ireturn, 1) := by decide +kernel
set_option maxRecDepth 100000 in
set_option maxHeartbeats 4000000 in
theorem c_X7_count_3_c {hp : List gA} {ci : Int32} {fi sp : Nat} {L : gLn}  (HC : hp[0]? = some (gCo fi sp ci)) (HL : gLine hp L)  : gM yX7_count cX7_count 2 ((some .int)) 2 40 [.ref 0, .int 3] (hp) (0) (0) (fun v h => v = some (.int (rX7_count_3 ci L)) ∧ h = hp) := by
  refine gM_of (ls0 := [some (.ref 0), some (.int 3)]) (by decide +kernel) (Nat.le_of_ble_eq_true rfl) rfl fun X C E => ?_
  refine g_iload_n (q := 1) C dX7_count_0 rfl rfl ?_
  refine g_tableE (v := 3) (off := 92) (t := 93) C dX7_count_1 rfl (by decide) (by decide) (by decide) (by decide) ?_
  refine g_aload_n (q := 94) C dX7_count_93 rfl rfl ?_
  refine g_getfield (v := .ref 20) (q := 97) C fX7_30 dX7_count_94 rfl HC rfl ?_
  refine g_getfield (v := .int L.tr) (q := 100) C fX7_197 dX7_count_97 rfl HL.1 rfl ?_
  have e : rX7_count_3 ci L = (L.tr) := rfl
  exact E.1 _ _ _ _ _ _ _ dX7_count_100 rfl rfl (Nat.le_of_ble_eq_true rfl) (Nat.le_of_ble_eq_true rfl) ⟨by rw [e], rfl⟩
def rX7_count_4 (ci : Int32) (J : gJr) : Int32 := (jX1_unlike J)
theorem dX7_count_101 : decode cX7_count 101 = .ok (.aload_n 0, 1) := by decide +kernel
theorem dX7_count_102 : decode cX7_count 102 = .ok (.getfield 21, 3) := by decide +kernel
theorem dX7_count_105 : decode cX7_count 105 = .ok (.invokevirtual 200, 3) := by decide +kernel
theorem dX7_count_108 : decode cX7_count 108 = .ok (.ireturn, 1) := by decide +kernel
set_option maxRecDepth 100000 in
set_option maxHeartbeats 4000000 in
theorem c_X7_count_4_c {hp : List gA} {ci : Int32} {fi sp : Nat} {J : gJr}  (HC : hp[0]? = some (gCo fi sp ci)) (HJ : gJn hp J)  : gM yX7_count cX7_count 2 ((some .int)) 2 40 [.ref 0, .int 4] (hp) (0) (0) (fun v h => v = some (.int (rX7_count_4 ci J)) ∧ h = hp) := by
  refine gM_of (ls0 := [some (.ref 0), some (.int 4)]) (by decide +kernel) (Nat.le_of_ble_eq_true rfl) rfl fun X C E => ?_
  refine g_iload_n (q := 1) C dX7_count_0 rfl rfl ?_
  refine g_tableE (v := 4) (off := 100) (t := 101) C dX7_count_1 rfl (by decide) (by decide) (by decide) (by decide) ?_
  refine g_aload_n (q := 102) C dX7_count_101 rfl rfl ?_
  refine g_getfield (v := .ref 3) (q := 105) C fX7_21 dX7_count_102 rfl HC rfl ?_
  refine g_callVi (x := (jX1_unlike J)) (q := 108) (As := []) C gyX1_unlike gvX1_unlike t_844 (c_X1_unlike_j HJ) dX7_count_105 rfl HJ.1 rfl rfl rfl (Nat.le_of_ble_eq_true rfl) (Nat.le_of_ble_eq_true rfl) (Nat.le_of_ble_eq_true rfl) (Nat.le_of_ble_eq_true rfl) (Nat.le_of_ble_eq_true rfl) rfl ?_
  have e : rX7_count_4 ci J = ((jX1_unlike J)) := rfl
  exact E.1 _ _ _ _ _ _ _ dX7_count_108 rfl rfl (Nat.le_of_ble_eq_true rfl) (Nat.le_of_ble_eq_true rfl) ⟨by rw [e], rfl⟩
def rX7_count_5 (ci : Int32) (J : gJr) : Int32 := (jX1_kept J)
theorem dX7_count_109 : decode cX7_count 109 = .ok (.aload_n 0, 1) := by decide +kernel
theorem dX7_count_110 : decode cX7_count 110 = .ok (.getfield 21, 3) := by decide +kernel
theorem dX7_count_113 : decode cX7_count 113 = .ok (.invokevirtual 162, 3) := by decide +kernel
theorem dX7_count_116 : decode cX7_count 116 = .ok (.ireturn, 1) := by decide +kernel
set_option maxRecDepth 100000 in
set_option maxHeartbeats 4000000 in
theorem c_X7_count_5_c {hp : List gA} {ci : Int32} {fi sp : Nat} {J : gJr}  (HC : hp[0]? = some (gCo fi sp ci)) (HJ : gJn hp J)  : gM yX7_count cX7_count 2 ((some .int)) 2 40 [.ref 0, .int 5] (hp) (0) (0) (fun v h => v = some (.int (rX7_count_5 ci J)) ∧ h = hp) := by
  refine gM_of (ls0 := [some (.ref 0), some (.int 5)]) (by decide +kernel) (Nat.le_of_ble_eq_true rfl) rfl fun X C E => ?_
  refine g_iload_n (q := 1) C dX7_count_0 rfl rfl ?_
  refine g_tableE (v := 5) (off := 108) (t := 109) C dX7_count_1 rfl (by decide) (by decide) (by decide) (by decide) ?_
  refine g_aload_n (q := 110) C dX7_count_109 rfl rfl ?_
  refine g_getfield (v := .ref 3) (q := 113) C fX7_21 dX7_count_110 rfl HC rfl ?_
  refine g_callVi (x := (jX1_kept J)) (q := 116) (As := []) C gyX1_kept gvX1_kept t_848 (c_X1_kept_j HJ) dX7_count_113 rfl HJ.1 rfl rfl rfl (Nat.le_of_ble_eq_true rfl) (Nat.le_of_ble_eq_true rfl) (Nat.le_of_ble_eq_true rfl) (Nat.le_of_ble_eq_true rfl) (Nat.le_of_ble_eq_true rfl) rfl ?_
  have e : rX7_count_5 ci J = ((jX1_kept J)) := rfl
  exact E.1 _ _ _ _ _ _ _ dX7_count_116 rfl rfl (Nat.le_of_ble_eq_true rfl) (Nat.le_of_ble_eq_true rfl) ⟨by rw [e], rfl⟩
def rX7_count_8 (ci : Int32) (L : gLn) : Int32 := L.td
theorem dX7_count_136 : decode cX7_count 136 = .ok (.aload_n 0, 1) := by decide +kernel
theorem dX7_count_137 : decode cX7_count 137 = .ok (.getfield 30, 3) := by decide +kernel
theorem dX7_count_140 : decode cX7_count 140 = .ok (.getfield 206, 3) := by decide +kernel
theorem dX7_count_143 : decode cX7_count 143 = .ok (.ireturn, 1) := by decide +kernel
set_option maxRecDepth 100000 in
set_option maxHeartbeats 4000000 in
theorem c_X7_count_8_c {hp : List gA} {ci : Int32} {fi sp : Nat} {L : gLn}  (HC : hp[0]? = some (gCo fi sp ci)) (HL : gLine hp L)  : gM yX7_count cX7_count 2 ((some .int)) 2 40 [.ref 0, .int 8] (hp) (0) (0) (fun v h => v = some (.int (rX7_count_8 ci L)) ∧ h = hp) := by
  refine gM_of (ls0 := [some (.ref 0), some (.int 8)]) (by decide +kernel) (Nat.le_of_ble_eq_true rfl) rfl fun X C E => ?_
  refine g_iload_n (q := 1) C dX7_count_0 rfl rfl ?_
  refine g_tableE (v := 8) (off := 135) (t := 136) C dX7_count_1 rfl (by decide) (by decide) (by decide) (by decide) ?_
  refine g_aload_n (q := 137) C dX7_count_136 rfl rfl ?_
  refine g_getfield (v := .ref 20) (q := 140) C fX7_30 dX7_count_137 rfl HC rfl ?_
  refine g_getfield (v := .int L.td) (q := 143) C fX7_206 dX7_count_140 rfl HL.1 rfl ?_
  have e : rX7_count_8 ci L = (L.td) := rfl
  exact E.1 _ _ _ _ _ _ _ dX7_count_143 rfl rfl (Nat.le_of_ble_eq_true rfl) (Nat.le_of_ble_eq_true rfl) ⟨by rw [e], rfl⟩
def rX7_count_9 (ci : Int32) (L : gLn) : Int32 := L.tg
theorem dX7_count_144 : decode cX7_count 144 = .ok (.aload_n 0, 1) := by decide +kernel
theorem dX7_count_145 : decode cX7_count 145 = .ok (.getfield 30, 3) := by decide +kernel
theorem dX7_count_148 : decode cX7_count 148 = .ok (.getfield 209, 3) := by decide +kernel
theorem dX7_count_151 : decode cX7_count 151 = .ok (.ireturn, 1) := by decide +kernel
set_option maxRecDepth 100000 in
set_option maxHeartbeats 4000000 in
theorem c_X7_count_9_c {hp : List gA} {ci : Int32} {fi sp : Nat} {L : gLn}  (HC : hp[0]? = some (gCo fi sp ci)) (HL : gLine hp L)  : gM yX7_count cX7_count 2 ((some .int)) 2 40 [.ref 0, .int 9] (hp) (0) (0) (fun v h => v = some (.int (rX7_count_9 ci L)) ∧ h = hp) := by
  refine gM_of (ls0 := [some (.ref 0), some (.int 9)]) (by decide +kernel) (Nat.le_of_ble_eq_true rfl) rfl fun X C E => ?_
  refine g_iload_n (q := 1) C dX7_count_0 rfl rfl ?_
  refine g_tableE (v := 9) (off := 143) (t := 144) C dX7_count_1 rfl (by decide) (by decide) (by decide) (by decide) ?_
  refine g_aload_n (q := 145) C dX7_count_144 rfl rfl ?_
  refine g_getfield (v := .ref 20) (q := 148) C fX7_30 dX7_count_145 rfl HC rfl ?_
  refine g_getfield (v := .int L.tg) (q := 151) C fX7_209 dX7_count_148 rfl HL.1 rfl ?_
  have e : rX7_count_9 ci L = (L.tg) := rfl
  exact E.1 _ _ _ _ _ _ _ dX7_count_151 rfl rfl (Nat.le_of_ble_eq_true rfl) (Nat.le_of_ble_eq_true rfl) ⟨by rw [e], rfl⟩

def rX3_cardRoom (q : gRs) : Int32 := q.ro
theorem dX3_cardRoom_0 : decode cX3_cardRoom 0 = .ok (.aload_n 0, 1) := by decide +kernel
theorem dX3_cardRoom_1 : decode cX3_cardRoom 1 = .ok (.getfield 51, 3) := by decide +kernel
theorem dX3_cardRoom_4 : decode cX3_cardRoom 4 = .ok (.ireturn, 1) := by decide +kernel
set_option maxRecDepth 100000 in
set_option maxHeartbeats 4000000 in
theorem c_X3_cardRoom_c {hp : List gA} {q : gRs} {fi : Nat} (HQ : gRs_ hp fi q)  : gM yX3_cardRoom cX3_cardRoom 1 ((some .int)) 0 0 [.ref fi] (hp) (0) (0) (fun v h => v = some (.int (rX3_cardRoom q)) ∧ h = hp) := by
  refine gM_of (ls0 := [some (.ref fi)]) (by decide +kernel) (Nat.le_of_ble_eq_true rfl) rfl fun X C E => ?_
  refine g_aload_n (q := 1) C dX3_cardRoom_0 rfl rfl ?_
  refine g_getfield (v := .int q.ro) (q := 4) C fX3_51 dX3_cardRoom_1 rfl HQ.1 rfl ?_
  have e : rX3_cardRoom q = (q.ro) := rfl
  exact E.1 _ _ _ _ _ _ _ dX3_cardRoom_4 rfl rfl (Nat.le_of_ble_eq_true rfl) (Nat.le_of_ble_eq_true rfl) ⟨by rw [e], rfl⟩
def rX3_historicalBytes (q : gRs) : Int32 := (nI q.hi.length)
theorem dX3_historicalBytes_0 : decode cX3_historicalBytes 0 = .ok (.aload_n 0, 1) := by decide +kernel
theorem dX3_historicalBytes_1 : decode cX3_historicalBytes 1 = .ok (.getfield 14, 3) := by decide +kernel
theorem dX3_historicalBytes_4 : decode cX3_historicalBytes 4 = .ok (.invokevirtual 65, 3) := by decide +kernel
theorem dX3_historicalBytes_7 : decode cX3_historicalBytes 7 = .ok (.ireturn, 1) := by decide +kernel
set_option maxRecDepth 100000 in
set_option maxHeartbeats 4000000 in
theorem c_X3_historicalBytes_c {hp : List gA} {q : gRs} {fi : Nat} (HQ : gRs_ hp fi q)  : gM yX3_historicalBytes cX3_historicalBytes 1 ((some .int)) 1 20 [.ref fi] (hp) (0) (0) (fun v h => v = some (.int (rX3_historicalBytes q)) ∧ h = hp) := by
  refine gM_of (ls0 := [some (.ref fi)]) (by decide +kernel) (Nat.le_of_ble_eq_true rfl) rfl fun X C E => ?_
  refine g_aload_n (q := 1) C dX3_historicalBytes_0 rfl rfl ?_
  refine g_getfield (v := .ref ((fi + 1))) (q := 4) C fX3_14 dX3_historicalBytes_1 rfl HQ.1 rfl ?_
  refine g_callVi (x := (nI q.hi.length)) (q := 7) (As := []) C gyX4_size gvX4_size t_417 (c_X4_size (gRw.obj HQ.2)) dX3_historicalBytes_4 rfl (gRw.obj HQ.2) rfl rfl rfl (Nat.le_of_ble_eq_true rfl) (Nat.le_of_ble_eq_true rfl) (Nat.le_of_ble_eq_true rfl) (Nat.le_of_ble_eq_true rfl) (Nat.le_of_ble_eq_true rfl) rfl ?_
  have e : rX3_historicalBytes q = ((nI q.hi.length)) := rfl
  exact E.1 _ _ _ _ _ _ _ dX3_historicalBytes_7 rfl rfl (Nat.le_of_ble_eq_true rfl) (Nat.le_of_ble_eq_true rfl) ⟨by rw [e], rfl⟩
def rX3_historicalByte (q : gRs) (x : Int32) : Int32 := (gat q.hi x)
theorem dX3_historicalByte_0 : decode cX3_historicalByte 0 = .ok (.aload_n 0, 1) := by decide +kernel
theorem dX3_historicalByte_1 : decode cX3_historicalByte 1 = .ok (.getfield 14, 3) := by decide +kernel
theorem dX3_historicalByte_4 : decode cX3_historicalByte 4 = .ok (.iload_n 1, 1) := by decide +kernel
theorem dX3_historicalByte_5 : decode cX3_historicalByte 5 = .ok (.invokevirtual 30, 3) := by decide +kernel
theorem dX3_historicalByte_8 : decode cX3_historicalByte 8 = .ok (.ireturn, 1) := by decide +kernel
set_option maxRecDepth 100000 in
set_option maxHeartbeats 4000000 in
theorem c_X3_historicalByte_c {hp : List gA} {q : gRs} {x : Int32} {fi : Nat} (HQ : gRs_ hp fi q)  : gM yX3_historicalByte cX3_historicalByte 2 ((some .int)) 1 21 [.ref fi, .int x] (hp) (0) (0) (fun v h => v = some (.int (rX3_historicalByte q x)) ∧ h = hp) := by
  refine gM_of (ls0 := [some (.ref fi), some (.int x)]) (by decide +kernel) (Nat.le_of_ble_eq_true rfl) rfl fun X C E => ?_
  refine g_aload_n (q := 1) C dX3_historicalByte_0 rfl rfl ?_
  refine g_getfield (v := .ref ((fi + 1))) (q := 4) C fX3_14 dX3_historicalByte_1 rfl HQ.1 rfl ?_
  refine g_iload_n (q := 5) C dX3_historicalByte_4 rfl rfl ?_
  refine g_callVi (x := (gat q.hi x)) (q := 8) (As := [.int x]) C gyX4_at gvX4_at t_424 (c_X4_at_w HQ.2) dX3_historicalByte_5 rfl (gRw.obj HQ.2) rfl rfl rfl (Nat.le_of_ble_eq_true rfl) (Nat.le_of_ble_eq_true rfl) (Nat.le_of_ble_eq_true rfl) (Nat.le_of_ble_eq_true rfl) (Nat.le_of_ble_eq_true rfl) rfl ?_
  have e : rX3_historicalByte q x = ((gat q.hi x)) := rfl
  exact E.1 _ _ _ _ _ _ _ dX3_historicalByte_8 rfl rfl (Nat.le_of_ble_eq_true rfl) (Nat.le_of_ble_eq_true rfl) ⟨by rw [e], rfl⟩
def rX3_tell_7 (q : gRs) : Int32 := q.ro
theorem dX3_tell_0 : decode cX3_tell 0 = .ok (.iload_n 1, 1) := by decide +kernel
theorem dX3_tell_1 : decode cX3_tell 1 = .ok (.tableswitch 113 0 8 #[51, 56, 64, 72, 77, 82, 87, 95, 100], 51) := by decide +kernel
theorem dX3_tell_96 : decode cX3_tell 96 = .ok (.aload_n 0, 1) := by decide +kernel
theorem dX3_tell_97 : decode cX3_tell 97 = .ok (.getfield 51, 3) := by decide +kernel
theorem dX3_tell_100 : decode cX3_tell 100 = .ok (.ireturn, 1) := by decide +kernel
set_option maxRecDepth 100000 in
set_option maxHeartbeats 4000000 in
theorem c_X3_tell_7_c {hp : List gA} {q : gRs} {fi : Nat} (HQ : gRs_ hp fi q)  : gM yX3_tell cX3_tell 2 ((some .int)) 1 21 [.ref fi, .int 7] (hp) (0) (0) (fun v h => v = some (.int (rX3_tell_7 q)) ∧ h = hp) := by
  refine gM_of (ls0 := [some (.ref fi), some (.int 7)]) (by decide +kernel) (Nat.le_of_ble_eq_true rfl) rfl fun X C E => ?_
  refine g_iload_n (q := 1) C dX3_tell_0 rfl rfl ?_
  refine g_tableE (v := 7) (off := 95) (t := 96) C dX3_tell_1 rfl (by decide) (by decide) (by decide) (by decide) ?_
  refine g_aload_n (q := 97) C dX3_tell_96 rfl rfl ?_
  refine g_getfield (v := .int q.ro) (q := 100) C fX3_51 dX3_tell_97 rfl HQ.1 rfl ?_
  have e : rX3_tell_7 q = (q.ro) := rfl
  exact E.1 _ _ _ _ _ _ _ dX3_tell_100 rfl rfl (Nat.le_of_ble_eq_true rfl) (Nat.le_of_ble_eq_true rfl) ⟨by rw [e], rfl⟩
def rX7_historical (ci : Int32) (q : gRs) (x : Int32) : Int32 := (if ci = 0 then (-1) else (if x < 0 then (-1) else (if x < (rX3_historicalBytes q) then (rX3_historicalByte q x) else (-1))))
theorem dX7_historical_0 : decode cX7_historical 0 = .ok (.aload_n 0, 1) := by decide +kernel
theorem dX7_historical_1 : decode cX7_historical 1 = .ok (.getfield 51, 3) := by decide +kernel
theorem dX7_historical_4 : decode cX7_historical 4 = .ok (.ifCond .eq 18, 3) := by decide +kernel
theorem dX7_historical_7 : decode cX7_historical 7 = .ok (.iload_n 1, 1) := by decide +kernel
theorem dX7_historical_8 : decode cX7_historical 8 = .ok (.ifCond .lt 14, 3) := by decide +kernel
theorem dX7_historical_11 : decode cX7_historical 11 = .ok (.iload_n 1, 1) := by decide +kernel
theorem dX7_historical_12 : decode cX7_historical 12 = .ok (.aload_n 0, 1) := by decide +kernel
theorem dX7_historical_13 : decode cX7_historical 13 = .ok (.getfield 44, 3) := by decide +kernel
theorem dX7_historical_16 : decode cX7_historical 16 = .ok (.invokevirtual 86, 3) := by decide +kernel
theorem dX7_historical_19 : decode cX7_historical 19 = .ok (.if_icmp .lt 5, 3) := by decide +kernel
theorem dX7_historical_22 : decode cX7_historical 22 = .ok (.iconst (-1), 1) := by decide +kernel
theorem dX7_historical_23 : decode cX7_historical 23 = .ok (.ireturn, 1) := by decide +kernel
theorem dX7_historical_24 : decode cX7_historical 24 = .ok (.aload_n 0, 1) := by decide +kernel
theorem dX7_historical_25 : decode cX7_historical 25 = .ok (.getfield 44, 3) := by decide +kernel
theorem dX7_historical_28 : decode cX7_historical 28 = .ok (.iload_n 1, 1) := by decide +kernel
theorem dX7_historical_29 : decode cX7_historical 29 = .ok (.invokevirtual 93, 3) := by decide +kernel
theorem dX7_historical_32 : decode cX7_historical 32 = .ok (.ireturn, 1) := by decide +kernel
set_option maxRecDepth 100000 in
set_option maxHeartbeats 4000000 in
theorem c_X7_historical_c {hp : List gA} {ci : Int32} {fi sp : Nat} {q : gRs} {x : Int32}  (HC : hp[0]? = some (gCo fi sp ci)) (HQ : gRs_ hp fi q)  : gM yX7_historical cX7_historical 2 ((some .int)) 2 42 [.ref 0, .int x] (hp) (0) (0) (fun v h => v = some (.int (rX7_historical ci q x)) ∧ h = hp) := by
  refine gM_of (ls0 := [some (.ref 0), some (.int x)]) (by decide +kernel) (Nat.le_of_ble_eq_true rfl) rfl fun X C E => ?_
  refine g_aload_n (q := 1) C dX7_historical_0 rfl rfl ?_
  refine g_getfield (v := .int ci) (q := 4) C fX7_51 dX7_historical_1 rfl HC rfl ?_
  refine g_if_eq (t := 22) (q := 7) C dX7_historical_4 (by decide) rfl (fun c_4 => ?_) (fun c_4 => ?_)
  ·
    refine g_iconst (v := (-1)) (q := 23) C dX7_historical_22 (by decide) rfl ?_
    have e : rX7_historical ci q x = ((-1)) := (if_pos c_4)
    exact E.1 _ _ _ _ _ _ _ dX7_historical_23 rfl rfl (Nat.le_of_ble_eq_true rfl) (Nat.le_of_ble_eq_true rfl) ⟨by rw [e], rfl⟩
  ·
    refine g_iload_n (q := 8) C dX7_historical_7 rfl rfl ?_
    refine g_if_lt (t := 22) (q := 11) C dX7_historical_8 (by decide) rfl (fun c_8 => ?_) (fun c_8 => ?_)
    ·
      refine g_iconst (v := (-1)) (q := 23) C dX7_historical_22 (by decide) rfl ?_
      have e : rX7_historical ci q x = ((-1)) := ((if_neg c_4).trans (if_pos c_8))
      exact E.1 _ _ _ _ _ _ _ dX7_historical_23 rfl rfl (Nat.le_of_ble_eq_true rfl) (Nat.le_of_ble_eq_true rfl) ⟨by rw [e], rfl⟩
    ·
      refine g_iload_n (q := 12) C dX7_historical_11 rfl rfl ?_
      refine g_aload_n (q := 13) C dX7_historical_12 rfl rfl ?_
      refine g_getfield (v := .ref fi) (q := 16) C fX7_44 dX7_historical_13 rfl HC rfl ?_
      refine g_callVi (x := (rX3_historicalBytes q)) (q := 19) (As := []) C gyX3_historicalBytes gvX3_historicalBytes t_515 (c_X3_historicalBytes_c HQ) dX7_historical_16 rfl HQ.1 rfl rfl rfl (Nat.le_of_ble_eq_true rfl) (Nat.le_of_ble_eq_true rfl) (Nat.le_of_ble_eq_true rfl) (Nat.le_of_ble_eq_true rfl) (Nat.le_of_ble_eq_true rfl) rfl ?_
      refine g_icmp_lt (t := 24) (q := 22) C dX7_historical_19 (by decide) rfl (fun c_19 => ?_) (fun c_19 => ?_)
      ·
        refine g_aload_n (q := 25) C dX7_historical_24 rfl rfl ?_
        refine g_getfield (v := .ref fi) (q := 28) C fX7_44 dX7_historical_25 rfl HC rfl ?_
        refine g_iload_n (q := 29) C dX7_historical_28 rfl rfl ?_
        refine g_callVi (x := (rX3_historicalByte q x)) (q := 32) (As := [.int x]) C gyX3_historicalByte gvX3_historicalByte t_531 (c_X3_historicalByte_c HQ) dX7_historical_29 rfl HQ.1 rfl rfl rfl (Nat.le_of_ble_eq_true rfl) (Nat.le_of_ble_eq_true rfl) (Nat.le_of_ble_eq_true rfl) (Nat.le_of_ble_eq_true rfl) (Nat.le_of_ble_eq_true rfl) rfl ?_
        have e : rX7_historical ci q x = ((rX3_historicalByte q x)) := ((if_neg c_4).trans ((if_neg c_8).trans (if_pos c_19)))
        exact E.1 _ _ _ _ _ _ _ dX7_historical_32 rfl rfl (Nat.le_of_ble_eq_true rfl) (Nat.le_of_ble_eq_true rfl) ⟨by rw [e], rfl⟩
      ·
        refine g_iconst (v := (-1)) (q := 23) C dX7_historical_22 (by decide) rfl ?_
        have e : rX7_historical ci q x = ((-1)) := ((if_neg c_4).trans ((if_neg c_8).trans (if_neg c_19)))
        exact E.1 _ _ _ _ _ _ _ dX7_historical_23 rfl rfl (Nat.le_of_ble_eq_true rfl) (Nat.le_of_ble_eq_true rfl) ⟨by rw [e], rfl⟩
def rX7_answer_7 (ci : Int32) (q : gRs) : Int32 := (if ci = 0 then (-1) else (rX3_tell_7 q))
theorem dX7_answer_0 : decode cX7_answer 0 = .ok (.aload_n 0, 1) := by decide +kernel
theorem dX7_answer_1 : decode cX7_answer 1 = .ok (.getfield 51, 3) := by decide +kernel
theorem dX7_answer_4 : decode cX7_answer 4 = .ok (.ifCond .eq 14, 3) := by decide +kernel
theorem dX7_answer_7 : decode cX7_answer 7 = .ok (.aload_n 0, 1) := by decide +kernel
theorem dX7_answer_8 : decode cX7_answer 8 = .ok (.getfield 44, 3) := by decide +kernel
theorem dX7_answer_11 : decode cX7_answer 11 = .ok (.iload_n 1, 1) := by decide +kernel
theorem dX7_answer_12 : decode cX7_answer 12 = .ok (.invokevirtual 89, 3) := by decide +kernel
theorem dX7_answer_15 : decode cX7_answer 15 = .ok (.goto 4, 3) := by decide +kernel
theorem dX7_answer_18 : decode cX7_answer 18 = .ok (.iconst (-1), 1) := by decide +kernel
theorem dX7_answer_19 : decode cX7_answer 19 = .ok (.ireturn, 1) := by decide +kernel
set_option maxRecDepth 100000 in
set_option maxHeartbeats 4000000 in
theorem c_X7_answer_7_c {hp : List gA} {ci : Int32} {fi sp : Nat} {q : gRs}  (HC : hp[0]? = some (gCo fi sp ci)) (HQ : gRs_ hp fi q)  : gM yX7_answer cX7_answer 2 ((some .int)) 2 42 [.ref 0, .int 7] (hp) (0) (0) (fun v h => v = some (.int (rX7_answer_7 ci q)) ∧ h = hp) := by
  refine gM_of (ls0 := [some (.ref 0), some (.int 7)]) (by decide +kernel) (Nat.le_of_ble_eq_true rfl) rfl fun X C E => ?_
  refine g_aload_n (q := 1) C dX7_answer_0 rfl rfl ?_
  refine g_getfield (v := .int ci) (q := 4) C fX7_51 dX7_answer_1 rfl HC rfl ?_
  refine g_if_eq (t := 18) (q := 7) C dX7_answer_4 (by decide) rfl (fun c_4 => ?_) (fun c_4 => ?_)
  ·
    refine g_iconst (v := (-1)) (q := 19) C dX7_answer_18 (by decide) rfl ?_
    have e : rX7_answer_7 ci q = ((-1)) := (if_pos c_4)
    exact E.1 _ _ _ _ _ _ _ dX7_answer_19 rfl rfl (Nat.le_of_ble_eq_true rfl) (Nat.le_of_ble_eq_true rfl) ⟨by rw [e], rfl⟩
  ·
    refine g_aload_n (q := 8) C dX7_answer_7 rfl rfl ?_
    refine g_getfield (v := .ref fi) (q := 11) C fX7_44 dX7_answer_8 rfl HC rfl ?_
    refine g_iload_n (q := 12) C dX7_answer_11 rfl rfl ?_
    refine g_callVi (x := (rX3_tell_7 q)) (q := 15) (As := [.int 7]) C gyX3_tell gvX3_tell t_523 (c_X3_tell_7_c HQ) dX7_answer_12 rfl HQ.1 rfl rfl rfl (Nat.le_of_ble_eq_true rfl) (Nat.le_of_ble_eq_true rfl) (Nat.le_of_ble_eq_true rfl) (Nat.le_of_ble_eq_true rfl) (Nat.le_of_ble_eq_true rfl) rfl ?_
    refine g_goto (q := 19) C dX7_answer_15 (by decide) ?_
    have e : rX7_answer_7 ci q = ((rX3_tell_7 q)) := (if_neg c_4)
    exact E.1 _ _ _ _ _ _ _ dX7_answer_19 rfl rfl (Nat.le_of_ble_eq_true rfl) (Nat.le_of_ble_eq_true rfl) ⟨by rw [e], rfl⟩
