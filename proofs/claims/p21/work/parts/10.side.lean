/-! Side, of any content (by program: wip/p1/m_side.py) -/
def gSd : Type := (Nat → Int32) × (Nat → List Int32)
def gSd.nx (s : gSd) : Int32 := s.1 0
def gSd.wa (s : gSd) : Int32 := s.1 1
def gSd.ro (s : gSd) : Int32 := s.1 2
def gSd.th (s : gSd) : Int32 := s.1 3
def gSd.ask (s : gSd) : Int32 := s.1 4
def gSd.ai (s : gSd) : Int32 := s.1 5
def gSd.me (s : gSd) : Int32 := s.1 6
def gSd.pe (s : gSd) : Int32 := s.1 7
def gSd.pm (s : gSd) : Int32 := s.1 8
def gSd.la (s : gSd) : Int32 := s.1 9
def gSd.se (s : gSd) : Int32 := s.1 10
def gSd.out (s : gSd) : List Int32 := s.2 0
def gSd.got (s : gSd) : List Int32 := s.2 1
def gSd.inn (s : gSd) : List Int32 := s.2 2
def gSd.set (s : gSd) (k : Nat) (x : Int32) : gSd := (fun j => if j = k then x else s.1 j, s.2)
def gSd.row (s : gSd) (k : Nat) (l : List Int32) : gSd := (s.1, fun j => if j = k then l else s.2 j)
def gSdC (o : Nat) (num : Int32) (s : gSd) : gA := .inr (.inr (5, [.int num, .int s.nx, .int s.wa, .int s.ro, .int s.th, .int s.ask, .int s.ai, .int s.me, .ref (o + 1), .ref (o + 3), .ref (o + 5), .int s.pe, .int s.pm, .int s.la, .int s.se]))
def gSide (hp : List gA) (o : Nat) (num : Int32) (s : gSd) : Prop := hp[o]? = some (gSdC o num s) ∧ gRw hp (o + 1) (o + 2) 60 s.out ∧ gRw hp (o + 3) (o + 4) 60 s.got ∧ gRw hp (o + 5) (o + 6) 60 s.inn
def gFS (hp h : List gA) (o : Nat) : Prop := ∀ k, (k < o ∨ o + 7 ≤ k) → h[k]? = hp[k]?
theorem gSide.put {hp h : List gA} {o : Nat} {num : Int32} {s s' : gSd} (H : gSide hp o num s) (e : h[o]? = some (gSdC o num s')) (fr : ∀ k, k ≠ o → h[k]? = hp[k]?) (eo : s'.out = s.out) (eg : s'.got = s.got) (ei : s'.inn = s.inn) : gSide h o num s' ∧ gFS hp h o := by
  refine ⟨⟨e, ?_, ?_, ?_⟩, fun k hk => fr k (by omega)⟩
  · rw [eo]; exact H.2.1.kept (fr _ (by omega)) (fr _ (by omega))
  · rw [eg]; exact H.2.2.1.kept (fr _ (by omega)) (fr _ (by omega))
  · rw [ei]; exact H.2.2.2.kept (fr _ (by omega)) (fr _ (by omega))
theorem gSide.kept {hp h : List gA} {o : Nat} {num : Int32} {s : gSd} (H : gSide hp o num s) (fr : ∀ k, o ≤ k → k < o + 7 → h[k]? = hp[k]?) : gSide h o num s :=
  ⟨(fr _ (by omega) (by omega)).trans H.1, H.2.1.kept (fr _ (by omega) (by omega)) (fr _ (by omega) (by omega)), H.2.2.1.kept (fr _ (by omega) (by omega)) (fr _ (by omega) (by omega)), H.2.2.2.kept (fr _ (by omega) (by omega)) (fr _ (by omega) (by omega))⟩
def gSd.pk (s : gSd) : Int32 := 64 * s.nx + (if s.pm = 0 then 0 else 32)
def gSd.has (s : gSd) : Int32 := if s.pe = -1 then 0 else 1
def gSd.hasMore (s : gSd) : Int32 := if s.pe = -1 then 0 else if s.pm = 0 then 0 else 1
def gSd.pass (s : gSd) : gSd := if s.pe = -1 then s else (((s.set 3 (s.th + s.pe)).set 7 (-1)).set 0 (1 - s.nx))
def gSd.empt (s : gSd) : gSd := ((((((s.set 0 0).set 1 0).set 7 (-1)).row 0 []).set 3 0).row 2 [])
def gSd.rst (s : gSd) (room : Int32) : gSd := ((((((s.empt.set 4 (-1)).set 2 room).set 6 0).row 1 []).set 9 (-1)).set 10 0)
def gSd.brk (s : gSd) : gSd := (((s.pass.row 0 []).set 3 0).row 2 [])
def gSd.whole (s : gSd) : gSd := (((s.row 1 s.inn).row 2 []).set 6 (s.me + 1))
def gSd.emptyCame (s : gSd) : gSd := ((s.row 1 []).set 6 (s.me + 1))
theorem dX5_requestKind_0 : decode cX5_requestKind 0 = .ok (.sipush 192, 3) := by decide +kernel
theorem dX5_requestKind_3 : decode cX5_requestKind 3 = .ok (.aload_n 0, 1) := by decide +kernel
theorem dX5_requestKind_4 : decode cX5_requestKind 4 = .ok (.getfield 24, 3) := by decide +kernel
theorem dX5_requestKind_7 : decode cX5_requestKind 7 = .ok (.iadd, 1) := by decide +kernel
theorem dX5_requestKind_8 : decode cX5_requestKind 8 = .ok (.ireturn, 1) := by decide +kernel
set_option maxRecDepth 100000 in
set_option maxHeartbeats 4000000 in
theorem c_X5_requestKind_s {hp : List gA} {o : Nat} {num : Int32} {s : gSd} (H : gSide hp o num s) : gM yX5_requestKind cX5_requestKind 1 ((some .int)) 0 0 [.ref o] (hp) (0) (0) (fun v h => v = some (.int (192 + s.ask)) ∧ h = hp) := by
  refine gM_of (ls0 := [some (.ref o)]) (by decide +kernel) (Nat.le_of_ble_eq_true rfl) rfl fun X C E => ?_
  refine g_sipush (v := 192) (q := 3) C dX5_requestKind_0 (by decide) rfl ?_
  refine g_aload_n (q := 4) C dX5_requestKind_3 rfl rfl ?_
  refine g_getfield (q := 7) C fX5_24 dX5_requestKind_4 rfl H.1 rfl ?_
  refine g_iadd (q := 8) C dX5_requestKind_7 rfl ?_
  exact E.1 _ _ _ _ _ _ _ dX5_requestKind_8 rfl rfl (Nat.le_of_ble_eq_true rfl) (Nat.le_of_ble_eq_true rfl) ⟨rfl, rfl⟩
theorem dX5_receipt_0 : decode cX5_receipt 0 = .ok (.sipush 128, 3) := by decide +kernel
theorem dX5_receipt_3 : decode cX5_receipt 3 = .ok (.bipush 16, 2) := by decide +kernel
theorem dX5_receipt_5 : decode cX5_receipt 5 = .ok (.aload_n 0, 1) := by decide +kernel
theorem dX5_receipt_6 : decode cX5_receipt 6 = .ok (.getfield 15, 3) := by decide +kernel
theorem dX5_receipt_9 : decode cX5_receipt 9 = .ok (.imul, 1) := by decide +kernel
theorem dX5_receipt_10 : decode cX5_receipt 10 = .ok (.iadd, 1) := by decide +kernel
theorem dX5_receipt_11 : decode cX5_receipt 11 = .ok (.iload_n 1, 1) := by decide +kernel
theorem dX5_receipt_12 : decode cX5_receipt 12 = .ok (.iadd, 1) := by decide +kernel
theorem dX5_receipt_13 : decode cX5_receipt 13 = .ok (.ireturn, 1) := by decide +kernel
set_option maxRecDepth 100000 in
set_option maxHeartbeats 4000000 in
theorem c_X5_receipt_s {hp : List gA} {o : Nat} {num : Int32} {s : gSd} {x : Int32} (H : gSide hp o num s) : gM yX5_receipt cX5_receipt 2 ((some .int)) 0 0 [.ref o, .int x] (hp) (0) (0) (fun v h => v = some (.int (128 + 16 * s.wa + x)) ∧ h = hp) := by
  refine gM_of (ls0 := [some (.ref o), some (.int x)]) (by decide +kernel) (Nat.le_of_ble_eq_true rfl) rfl fun X C E => ?_
  refine g_sipush (v := 128) (q := 3) C dX5_receipt_0 (by decide) rfl ?_
  refine g_bipush (v := 16) (q := 5) C dX5_receipt_3 (by decide) rfl ?_
  refine g_aload_n (q := 6) C dX5_receipt_5 rfl rfl ?_
  refine g_getfield (q := 9) C fX5_15 dX5_receipt_6 rfl H.1 rfl ?_
  refine g_imul (q := 10) C dX5_receipt_9 rfl ?_
  refine g_iadd (q := 11) C dX5_receipt_10 rfl ?_
  refine g_iload_n (q := 12) C dX5_receipt_11 rfl rfl ?_
  refine g_iadd (q := 13) C dX5_receipt_12 rfl ?_
  exact E.1 _ _ _ _ _ _ _ dX5_receipt_13 rfl rfl (Nat.le_of_ble_eq_true rfl) (Nat.le_of_ble_eq_true rfl) ⟨rfl, rfl⟩
theorem dX5_noteSent_0 : decode cX5_noteSent 0 = .ok (.aload_n 0, 1) := by decide +kernel
theorem dX5_noteSent_1 : decode cX5_noteSent 1 = .ok (.iload_n 1, 1) := by decide +kernel
theorem dX5_noteSent_2 : decode cX5_noteSent 2 = .ok (.putfield 55, 3) := by decide +kernel
theorem dX5_noteSent_5 : decode cX5_noteSent 5 = .ok (.aload_n 0, 1) := by decide +kernel
theorem dX5_noteSent_6 : decode cX5_noteSent 6 = .ok (.dup, 1) := by decide +kernel
theorem dX5_noteSent_7 : decode cX5_noteSent 7 = .ok (.getfield 58, 3) := by decide +kernel
theorem dX5_noteSent_10 : decode cX5_noteSent 10 = .ok (.iconst 1, 1) := by decide +kernel
theorem dX5_noteSent_11 : decode cX5_noteSent 11 = .ok (.iadd, 1) := by decide +kernel
theorem dX5_noteSent_12 : decode cX5_noteSent 12 = .ok (.putfield 58, 3) := by decide +kernel
theorem dX5_noteSent_15 : decode cX5_noteSent 15 = .ok (.return_, 1) := by decide +kernel
set_option maxRecDepth 100000 in
set_option maxHeartbeats 4000000 in
theorem c_X5_noteSent_s {hp : List gA} {o : Nat} {num : Int32} {s : gSd} {x : Int32} (H : gSide hp o num s) : gM yX5_noteSent cX5_noteSent 2 (none) 0 0 [.ref o, .int x] (hp) (0) (0) (fun v h => v = none ∧ (gSide h o num ((s.set 9 x).set 10 (s.se + 1)) ∧ gFS hp h o)) := by
  refine gM_of (ls0 := [some (.ref o), some (.int x)]) (by decide +kernel) (Nat.le_of_ble_eq_true rfl) rfl fun X C E => ?_
  refine g_aload_n (q := 1) C dX5_noteSent_0 rfl rfl ?_
  refine g_iload_n (q := 2) C dX5_noteSent_1 rfl rfl ?_
  refine g_putfield (q := 5) C fX5_55 dX5_noteSent_2 rfl H.1 (Nat.le_of_ble_eq_true rfl) (Or.inl rfl) rfl rfl (by intro z h; cases h) ?_
  refine g_aload_n (q := 6) C dX5_noteSent_5 rfl rfl ?_
  refine g_dup (q := 7) C dX5_noteSent_6 rfl rfl ?_
  refine g_getfield (q := 10) C fX5_58 dX5_noteSent_7 rfl (gset_self H.1) rfl ?_
  refine g_iconst (v := 1) (q := 11) C dX5_noteSent_10 (by decide) rfl ?_
  refine g_iadd (q := 12) C dX5_noteSent_11 rfl ?_
  refine g_putfield (q := 15) C fX5_58 dX5_noteSent_12 rfl (gset_self H.1) (Nat.le_of_ble_eq_true rfl) (Or.inl rfl) rfl rfl (by intro z h; cases h) ?_
  exact E.2.1 _ _ _ _ _ dX5_noteSent_15 rfl (Nat.le_of_ble_eq_true rfl) (Nat.le_of_ble_eq_true rfl) ⟨rfl, H.put (gset_self (gset_self H.1)) (fun k hk => by repeat (first | rfl | rw [List.getElem?_set_ne (Ne.symm hk)])) rfl rfl rfl⟩
theorem dX5_blocksSent_0 : decode cX5_blocksSent 0 = .ok (.aload_n 0, 1) := by decide +kernel
theorem dX5_blocksSent_1 : decode cX5_blocksSent 1 = .ok (.getfield 58, 3) := by decide +kernel
theorem dX5_blocksSent_4 : decode cX5_blocksSent 4 = .ok (.ireturn, 1) := by decide +kernel
set_option maxRecDepth 100000 in
set_option maxHeartbeats 4000000 in
theorem c_X5_blocksSent_s {hp : List gA} {o : Nat} {num : Int32} {s : gSd} (H : gSide hp o num s) : gM yX5_blocksSent cX5_blocksSent 1 ((some .int)) 0 0 [.ref o] (hp) (0) (0) (fun v h => v = some (.int s.se) ∧ h = hp) := by
  refine gM_of (ls0 := [some (.ref o)]) (by decide +kernel) (Nat.le_of_ble_eq_true rfl) rfl fun X C E => ?_
  refine g_aload_n (q := 1) C dX5_blocksSent_0 rfl rfl ?_
  refine g_getfield (q := 4) C fX5_58 dX5_blocksSent_1 rfl H.1 rfl ?_
  exact E.1 _ _ _ _ _ _ _ dX5_blocksSent_4 rfl rfl (Nat.le_of_ble_eq_true rfl) (Nat.le_of_ble_eq_true rfl) ⟨rfl, rfl⟩
theorem dX5_pendingKind_0 : decode cX5_pendingKind 0 = .ok (.bipush 64, 2) := by decide +kernel
theorem dX5_pendingKind_2 : decode cX5_pendingKind 2 = .ok (.aload_n 0, 1) := by decide +kernel
theorem dX5_pendingKind_3 : decode cX5_pendingKind 3 = .ok (.getfield 9, 3) := by decide +kernel
theorem dX5_pendingKind_6 : decode cX5_pendingKind 6 = .ok (.imul, 1) := by decide +kernel
theorem dX5_pendingKind_7 : decode cX5_pendingKind 7 = .ok (.aload_n 0, 1) := by decide +kernel
theorem dX5_pendingKind_8 : decode cX5_pendingKind 8 = .ok (.getfield 51, 3) := by decide +kernel
theorem dX5_pendingKind_11 : decode cX5_pendingKind 11 = .ok (.ifCond .eq 8, 3) := by decide +kernel
theorem dX5_pendingKind_14 : decode cX5_pendingKind 14 = .ok (.bipush 32, 2) := by decide +kernel
theorem dX5_pendingKind_16 : decode cX5_pendingKind 16 = .ok (.goto 4, 3) := by decide +kernel
theorem dX5_pendingKind_19 : decode cX5_pendingKind 19 = .ok (.iconst 0, 1) := by decide +kernel
theorem dX5_pendingKind_20 : decode cX5_pendingKind 20 = .ok (.iadd, 1) := by decide +kernel
theorem dX5_pendingKind_21 : decode cX5_pendingKind 21 = .ok (.ireturn, 1) := by decide +kernel
set_option maxRecDepth 100000 in
set_option maxHeartbeats 4000000 in
theorem c_X5_pendingKind_s {hp : List gA} {o : Nat} {num : Int32} {s : gSd} (H : gSide hp o num s) : gM yX5_pendingKind cX5_pendingKind 1 ((some .int)) 0 0 [.ref o] (hp) (0) (0) (fun v h => v = some (.int s.pk) ∧ h = hp) := by
  refine gM_of (ls0 := [some (.ref o)]) (by decide +kernel) (Nat.le_of_ble_eq_true rfl) rfl fun X C E => ?_
  refine g_bipush (v := 64) (q := 2) C dX5_pendingKind_0 (by decide) rfl ?_
  refine g_aload_n (q := 3) C dX5_pendingKind_2 rfl rfl ?_
  refine g_getfield (q := 6) C fX5_9 dX5_pendingKind_3 rfl H.1 rfl ?_
  refine g_imul (q := 7) C dX5_pendingKind_6 rfl ?_
  refine g_aload_n (q := 8) C dX5_pendingKind_7 rfl rfl ?_
  refine g_getfield (q := 11) C fX5_51 dX5_pendingKind_8 rfl H.1 rfl ?_
  refine g_if_eq (t := 19) (q := 14) C dX5_pendingKind_11 (by decide) rfl (fun c_11 => ?_) (fun c_11 => ?_)
  · -- to 19
    refine g_iconst (v := 0) (q := 20) C dX5_pendingKind_19 (by decide) rfl ?_
    refine g_iadd (q := 21) C dX5_pendingKind_20 rfl ?_
    exact E.1 _ _ _ _ _ _ _ dX5_pendingKind_21 rfl rfl (Nat.le_of_ble_eq_true rfl) (Nat.le_of_ble_eq_true rfl) ⟨by simp [gSd.pk, *], rfl⟩
  · -- to 14
    refine g_bipush (v := 32) (q := 16) C dX5_pendingKind_14 (by decide) rfl ?_
    refine g_goto (q := 20) C dX5_pendingKind_16 (by decide) ?_
    refine g_iadd (q := 21) C dX5_pendingKind_20 rfl ?_
    exact E.1 _ _ _ _ _ _ _ dX5_pendingKind_21 rfl rfl (Nat.le_of_ble_eq_true rfl) (Nat.le_of_ble_eq_true rfl) ⟨by simp [gSd.pk, *], rfl⟩
theorem dX5_hasPending_0 : decode cX5_hasPending 0 = .ok (.aload_n 0, 1) := by decide +kernel
theorem dX5_hasPending_1 : decode cX5_hasPending 1 = .ok (.getfield 48, 3) := by decide +kernel
theorem dX5_hasPending_4 : decode cX5_hasPending 4 = .ok (.iconst (-1), 1) := by decide +kernel
theorem dX5_hasPending_5 : decode cX5_hasPending 5 = .ok (.if_icmp .eq 7, 3) := by decide +kernel
theorem dX5_hasPending_8 : decode cX5_hasPending 8 = .ok (.iconst 1, 1) := by decide +kernel
theorem dX5_hasPending_9 : decode cX5_hasPending 9 = .ok (.goto 4, 3) := by decide +kernel
theorem dX5_hasPending_12 : decode cX5_hasPending 12 = .ok (.iconst 0, 1) := by decide +kernel
theorem dX5_hasPending_13 : decode cX5_hasPending 13 = .ok (.ireturn, 1) := by decide +kernel
set_option maxRecDepth 100000 in
set_option maxHeartbeats 4000000 in
theorem c_X5_hasPending_s {hp : List gA} {o : Nat} {num : Int32} {s : gSd} (H : gSide hp o num s) : gM yX5_hasPending cX5_hasPending 1 ((some .boolean)) 0 0 [.ref o] (hp) (0) (0) (fun v h => v = some (.int s.has) ∧ h = hp) := by
  refine gM_of (ls0 := [some (.ref o)]) (by decide +kernel) (Nat.le_of_ble_eq_true rfl) rfl fun X C E => ?_
  refine g_aload_n (q := 1) C dX5_hasPending_0 rfl rfl ?_
  refine g_getfield (q := 4) C fX5_48 dX5_hasPending_1 rfl H.1 rfl ?_
  refine g_iconst (v := (-1)) (q := 5) C dX5_hasPending_4 (by decide) rfl ?_
  refine g_icmp_eq (t := 12) (q := 8) C dX5_hasPending_5 (by decide) rfl (fun c_5 => ?_) (fun c_5 => ?_)
  · -- to 12
    refine g_iconst (v := 0) (q := 13) C dX5_hasPending_12 (by decide) rfl ?_
    exact E.1 _ _ _ _ _ _ _ dX5_hasPending_13 rfl rfl (Nat.le_of_ble_eq_true rfl) (Nat.le_of_ble_eq_true rfl) ⟨by simp [gSd.has, *], rfl⟩
  · -- to 8
    refine g_iconst (v := 1) (q := 9) C dX5_hasPending_8 (by decide) rfl ?_
    refine g_goto (q := 13) C dX5_hasPending_9 (by decide) ?_
    exact E.1 _ _ _ _ _ _ _ dX5_hasPending_13 rfl rfl (Nat.le_of_ble_eq_true rfl) (Nat.le_of_ble_eq_true rfl) ⟨by simp [gSd.has, *], rfl⟩
theorem dX5_pendingHasMore_0 : decode cX5_pendingHasMore 0 = .ok (.aload_n 0, 1) := by decide +kernel
theorem dX5_pendingHasMore_1 : decode cX5_pendingHasMore 1 = .ok (.getfield 48, 3) := by decide +kernel
theorem dX5_pendingHasMore_4 : decode cX5_pendingHasMore 4 = .ok (.iconst (-1), 1) := by decide +kernel
theorem dX5_pendingHasMore_5 : decode cX5_pendingHasMore 5 = .ok (.if_icmp .eq 14, 3) := by decide +kernel
theorem dX5_pendingHasMore_8 : decode cX5_pendingHasMore 8 = .ok (.aload_n 0, 1) := by decide +kernel
theorem dX5_pendingHasMore_9 : decode cX5_pendingHasMore 9 = .ok (.getfield 51, 3) := by decide +kernel
theorem dX5_pendingHasMore_12 : decode cX5_pendingHasMore 12 = .ok (.ifCond .eq 7, 3) := by decide +kernel
theorem dX5_pendingHasMore_15 : decode cX5_pendingHasMore 15 = .ok (.iconst 1, 1) := by decide +kernel
theorem dX5_pendingHasMore_16 : decode cX5_pendingHasMore 16 = .ok (.goto 4, 3) := by decide +kernel
theorem dX5_pendingHasMore_19 : decode cX5_pendingHasMore 19 = .ok (.iconst 0, 1) := by decide +kernel
theorem dX5_pendingHasMore_20 : decode cX5_pendingHasMore 20 = .ok (.ireturn, 1) := by decide +kernel
set_option maxRecDepth 100000 in
set_option maxHeartbeats 4000000 in
theorem c_X5_pendingHasMore_s {hp : List gA} {o : Nat} {num : Int32} {s : gSd} (H : gSide hp o num s) : gM yX5_pendingHasMore cX5_pendingHasMore 1 ((some .boolean)) 0 0 [.ref o] (hp) (0) (0) (fun v h => v = some (.int s.hasMore) ∧ h = hp) := by
  refine gM_of (ls0 := [some (.ref o)]) (by decide +kernel) (Nat.le_of_ble_eq_true rfl) rfl fun X C E => ?_
  refine g_aload_n (q := 1) C dX5_pendingHasMore_0 rfl rfl ?_
  refine g_getfield (q := 4) C fX5_48 dX5_pendingHasMore_1 rfl H.1 rfl ?_
  refine g_iconst (v := (-1)) (q := 5) C dX5_pendingHasMore_4 (by decide) rfl ?_
  refine g_icmp_eq (t := 19) (q := 8) C dX5_pendingHasMore_5 (by decide) rfl (fun c_5 => ?_) (fun c_5 => ?_)
  · -- to 19
    refine g_iconst (v := 0) (q := 20) C dX5_pendingHasMore_19 (by decide) rfl ?_
    exact E.1 _ _ _ _ _ _ _ dX5_pendingHasMore_20 rfl rfl (Nat.le_of_ble_eq_true rfl) (Nat.le_of_ble_eq_true rfl) ⟨by simp [gSd.hasMore, *], rfl⟩
  · -- to 8
    refine g_aload_n (q := 9) C dX5_pendingHasMore_8 rfl rfl ?_
    refine g_getfield (q := 12) C fX5_51 dX5_pendingHasMore_9 rfl H.1 rfl ?_
    refine g_if_eq (t := 19) (q := 15) C dX5_pendingHasMore_12 (by decide) rfl (fun c_12 => ?_) (fun c_12 => ?_)
    · -- to 19
      refine g_iconst (v := 0) (q := 20) C dX5_pendingHasMore_19 (by decide) rfl ?_
      exact E.1 _ _ _ _ _ _ _ dX5_pendingHasMore_20 rfl rfl (Nat.le_of_ble_eq_true rfl) (Nat.le_of_ble_eq_true rfl) ⟨by simp [gSd.hasMore, *], rfl⟩
    · -- to 15
      refine g_iconst (v := 1) (q := 16) C dX5_pendingHasMore_15 (by decide) rfl ?_
      refine g_goto (q := 20) C dX5_pendingHasMore_16 (by decide) ?_
      exact E.1 _ _ _ _ _ _ _ dX5_pendingHasMore_20 rfl rfl (Nat.le_of_ble_eq_true rfl) (Nat.le_of_ble_eq_true rfl) ⟨by simp [gSd.hasMore, *], rfl⟩
theorem dX5_pendingSize_0 : decode cX5_pendingSize 0 = .ok (.iconst 0, 1) := by decide +kernel
theorem dX5_pendingSize_1 : decode cX5_pendingSize 1 = .ok (.aload_n 0, 1) := by decide +kernel
theorem dX5_pendingSize_2 : decode cX5_pendingSize 2 = .ok (.getfield 48, 3) := by decide +kernel
theorem dX5_pendingSize_5 : decode cX5_pendingSize 5 = .ok (.invokestatic 82, 3) := by decide +kernel
theorem dX5_pendingSize_8 : decode cX5_pendingSize 8 = .ok (.ireturn, 1) := by decide +kernel
set_option maxRecDepth 100000 in
set_option maxHeartbeats 4000000 in
theorem c_X5_pendingSize_s {hp : List gA} {o : Nat} {num : Int32} {s : gSd} (H : gSide hp o num s) : gM yX5_pendingSize cX5_pendingSize 1 ((some .int)) 1 21 [.ref o] (hp) (0) (0) (fun v h => v = some (.int (gmax 0 s.pe)) ∧ h = hp) := by
  refine gM_of (ls0 := [some (.ref o)]) (by decide +kernel) (Nat.le_of_ble_eq_true rfl) rfl fun X C E => ?_
  refine g_iconst (v := 0) (q := 1) C dX5_pendingSize_0 (by decide) rfl ?_
  refine g_aload_n (q := 2) C dX5_pendingSize_1 rfl rfl ?_
  refine g_getfield (q := 5) C fX5_48 dX5_pendingSize_2 rfl H.1 rfl ?_
  refine g_callSi (q := 8) (As := [.int 0, .int s.pe]) C gyJ9_max_7cf53 t_72 t_726 (c_J9_max_7cf53) dX5_pendingSize_5 rfl rfl rfl (Nat.le_of_ble_eq_true rfl) (Nat.le_of_ble_eq_true rfl) (Nat.le_of_ble_eq_true rfl) (Nat.le_of_ble_eq_true rfl) (Nat.le_of_ble_eq_true rfl) rfl ?_
  exact E.1 _ _ _ _ _ _ _ dX5_pendingSize_8 rfl rfl (Nat.le_of_ble_eq_true rfl) (Nat.le_of_ble_eq_true rfl) ⟨rfl, rfl⟩
theorem dX5_passPending_0 : decode cX5_passPending 0 = .ok (.aload_n 0, 1) := by decide +kernel
theorem dX5_passPending_1 : decode cX5_passPending 1 = .ok (.getfield 48, 3) := by decide +kernel
theorem dX5_passPending_4 : decode cX5_passPending 4 = .ok (.iconst (-1), 1) := by decide +kernel
theorem dX5_passPending_5 : decode cX5_passPending 5 = .ok (.if_icmp .eq 31, 3) := by decide +kernel
theorem dX5_passPending_8 : decode cX5_passPending 8 = .ok (.aload_n 0, 1) := by decide +kernel
theorem dX5_passPending_9 : decode cX5_passPending 9 = .ok (.dup, 1) := by decide +kernel
theorem dX5_passPending_10 : decode cX5_passPending 10 = .ok (.getfield 21, 3) := by decide +kernel
theorem dX5_passPending_13 : decode cX5_passPending 13 = .ok (.aload_n 0, 1) := by decide +kernel
theorem dX5_passPending_14 : decode cX5_passPending 14 = .ok (.getfield 48, 3) := by decide +kernel
theorem dX5_passPending_17 : decode cX5_passPending 17 = .ok (.iadd, 1) := by decide +kernel
theorem dX5_passPending_18 : decode cX5_passPending 18 = .ok (.putfield 21, 3) := by decide +kernel
theorem dX5_passPending_21 : decode cX5_passPending 21 = .ok (.aload_n 0, 1) := by decide +kernel
theorem dX5_passPending_22 : decode cX5_passPending 22 = .ok (.iconst (-1), 1) := by decide +kernel
theorem dX5_passPending_23 : decode cX5_passPending 23 = .ok (.putfield 48, 3) := by decide +kernel
theorem dX5_passPending_26 : decode cX5_passPending 26 = .ok (.aload_n 0, 1) := by decide +kernel
theorem dX5_passPending_27 : decode cX5_passPending 27 = .ok (.iconst 1, 1) := by decide +kernel
theorem dX5_passPending_28 : decode cX5_passPending 28 = .ok (.aload_n 0, 1) := by decide +kernel
theorem dX5_passPending_29 : decode cX5_passPending 29 = .ok (.getfield 9, 3) := by decide +kernel
theorem dX5_passPending_32 : decode cX5_passPending 32 = .ok (.isub, 1) := by decide +kernel
theorem dX5_passPending_33 : decode cX5_passPending 33 = .ok (.putfield 9, 3) := by decide +kernel
theorem dX5_passPending_36 : decode cX5_passPending 36 = .ok (.return_, 1) := by decide +kernel
set_option maxRecDepth 100000 in
set_option maxHeartbeats 4000000 in
theorem c_X5_passPending_s {hp : List gA} {o : Nat} {num : Int32} {s : gSd} (H : gSide hp o num s) : gM yX5_passPending cX5_passPending 1 (none) 0 0 [.ref o] (hp) (0) (0) (fun v h => v = none ∧ (gSide h o num s.pass ∧ gFS hp h o)) := by
  refine gM_of (ls0 := [some (.ref o)]) (by decide +kernel) (Nat.le_of_ble_eq_true rfl) rfl fun X C E => ?_
  refine g_aload_n (q := 1) C dX5_passPending_0 rfl rfl ?_
  refine g_getfield (q := 4) C fX5_48 dX5_passPending_1 rfl H.1 rfl ?_
  refine g_iconst (v := (-1)) (q := 5) C dX5_passPending_4 (by decide) rfl ?_
  refine g_icmp_eq (t := 36) (q := 8) C dX5_passPending_5 (by decide) rfl (fun c_5 => ?_) (fun c_5 => ?_)
  · -- to 36
    exact E.2.1 _ _ _ _ _ dX5_passPending_36 rfl (Nat.le_of_ble_eq_true rfl) (Nat.le_of_ble_eq_true rfl) ⟨rfl, by rw [gSd.pass, if_pos c_5]; exact ⟨H, fun _ _ => rfl⟩⟩
  · -- to 8
    refine g_aload_n (q := 9) C dX5_passPending_8 rfl rfl ?_
    refine g_dup (q := 10) C dX5_passPending_9 rfl rfl ?_
    refine g_getfield (q := 13) C fX5_21 dX5_passPending_10 rfl H.1 rfl ?_
    refine g_aload_n (q := 14) C dX5_passPending_13 rfl rfl ?_
    refine g_getfield (q := 17) C fX5_48 dX5_passPending_14 rfl H.1 rfl ?_
    refine g_iadd (q := 18) C dX5_passPending_17 rfl ?_
    refine g_putfield (q := 21) C fX5_21 dX5_passPending_18 rfl H.1 (Nat.le_of_ble_eq_true rfl) (Or.inl rfl) rfl rfl (by intro z h; cases h) ?_
    refine g_aload_n (q := 22) C dX5_passPending_21 rfl rfl ?_
    refine g_iconst (v := (-1)) (q := 23) C dX5_passPending_22 (by decide) rfl ?_
    refine g_putfield (q := 26) C fX5_48 dX5_passPending_23 rfl (gset_self H.1) (Nat.le_of_ble_eq_true rfl) (Or.inl rfl) rfl rfl (by intro z h; cases h) ?_
    refine g_aload_n (q := 27) C dX5_passPending_26 rfl rfl ?_
    refine g_iconst (v := 1) (q := 28) C dX5_passPending_27 (by decide) rfl ?_
    refine g_aload_n (q := 29) C dX5_passPending_28 rfl rfl ?_
    refine g_getfield (q := 32) C fX5_9 dX5_passPending_29 rfl (gset_self (gset_self H.1)) rfl ?_
    refine g_isub (q := 33) C dX5_passPending_32 rfl ?_
    refine g_putfield (q := 36) C fX5_9 dX5_passPending_33 rfl (gset_self (gset_self H.1)) (Nat.le_of_ble_eq_true rfl) (Or.inl rfl) rfl rfl (by intro z h; cases h) ?_
    exact E.2.1 _ _ _ _ _ dX5_passPending_36 rfl (Nat.le_of_ble_eq_true rfl) (Nat.le_of_ble_eq_true rfl) ⟨rfl, by rw [gSd.pass, if_neg c_5]; exact H.put (gset_self (gset_self (gset_self H.1))) (fun k hk => by repeat (first | rfl | rw [List.getElem?_set_ne (Ne.symm hk)])) rfl rfl rfl⟩
theorem dX5_ask_0 : decode cX5_ask 0 = .ok (.aload_n 0, 1) := by decide +kernel
theorem dX5_ask_1 : decode cX5_ask 1 = .ok (.iload_n 1, 1) := by decide +kernel
theorem dX5_ask_2 : decode cX5_ask 2 = .ok (.putfield 24, 3) := by decide +kernel
theorem dX5_ask_5 : decode cX5_ask 5 = .ok (.aload_n 0, 1) := by decide +kernel
theorem dX5_ask_6 : decode cX5_ask 6 = .ok (.iload_n 2, 1) := by decide +kernel
theorem dX5_ask_7 : decode cX5_ask 7 = .ok (.putfield 27, 3) := by decide +kernel
theorem dX5_ask_10 : decode cX5_ask 10 = .ok (.aload_n 0, 1) := by decide +kernel
theorem dX5_ask_11 : decode cX5_ask 11 = .ok (.invokevirtual 101, 3) := by decide +kernel
theorem dX5_ask_14 : decode cX5_ask 14 = .ok (.ireturn, 1) := by decide +kernel
set_option maxRecDepth 100000 in
set_option maxHeartbeats 4000000 in
theorem c_X5_ask_s {hp : List gA} {o : Nat} {num : Int32} {s : gSd} {w x : Int32} (H : gSide hp o num s) : gM yX5_ask cX5_ask 3 ((some .int)) 1 20 [.ref o, .int w, .int x] (hp) (0) (0) (fun v h => v = some (.int (192 + w)) ∧ (gSide h o num ((s.set 4 w).set 5 x) ∧ gFS hp h o)) := by
  refine gM_of (ls0 := [some (.ref o), some (.int w), some (.int x)]) (by decide +kernel) (Nat.le_of_ble_eq_true rfl) rfl fun X C E => ?_
  refine g_aload_n (q := 1) C dX5_ask_0 rfl rfl ?_
  refine g_iload_n (q := 2) C dX5_ask_1 rfl rfl ?_
  refine g_putfield (q := 5) C fX5_24 dX5_ask_2 rfl H.1 (Nat.le_of_ble_eq_true rfl) (Or.inl rfl) rfl rfl (by intro z h; cases h) ?_
  refine g_aload_n (q := 6) C dX5_ask_5 rfl rfl ?_
  refine g_iload_n (q := 7) C dX5_ask_6 rfl rfl ?_
  refine g_putfield (q := 10) C fX5_27 dX5_ask_7 rfl (gset_self H.1) (Nat.le_of_ble_eq_true rfl) (Or.inl rfl) rfl rfl (by intro z h; cases h) ?_
  refine g_aload_n (q := 11) C dX5_ask_10 rfl rfl ?_
  refine g_callVi (q := 14) (As := []) C gyX5_requestKind gvX5_requestKind t_627 ((c_X5_requestKind_s (s := ((s.set 4 w).set 5 x)) (And.left (H.put (gset_self (gset_self H.1)) (fun k hk => by repeat (first | rfl | rw [List.getElem?_set_ne (Ne.symm hk)])) rfl rfl rfl)))) dX5_ask_11 rfl (gset_self (gset_self H.1)) rfl rfl rfl (Nat.le_of_ble_eq_true rfl) (Nat.le_of_ble_eq_true rfl) (Nat.le_of_ble_eq_true rfl) (Nat.le_of_ble_eq_true rfl) (Nat.le_of_ble_eq_true rfl) rfl ?_
  exact E.1 _ _ _ _ _ _ _ dX5_ask_14 rfl rfl (Nat.le_of_ble_eq_true rfl) (Nat.le_of_ble_eq_true rfl) ⟨rfl, H.put (gset_self (gset_self H.1)) (fun k hk => by repeat (first | rfl | rw [List.getElem?_set_ne (Ne.symm hk)])) rfl rfl rfl⟩
theorem gFS.trans {hp h h' : List gA} {o : Nat} (a : gFS hp h o) (b : gFS h h' o) : gFS hp h' o := fun k hk => (b k hk).trans (a k hk)
theorem gFS.set {hp : List gA} {o : Nat} {e : gA} : gFS hp (hp.set o e) o := fun k hk => List.getElem?_set_ne (by omega)
theorem gFS.of {hp h : List gA} {o a b : Nat} (f : gFr hp h a b) (ha : o ≤ a) (ha2 : a < o + 7) (hb : o ≤ b) (hb2 : b < o + 7) : gFS hp h o := fun k hk => f k (by omega) (by omega)
theorem gFS.rf {hp : List gA} {o : Nat} : gFS hp hp o := fun _ _ => rfl
theorem dX5_emptyAll_0 : decode cX5_emptyAll 0 = .ok (.aload_n 0, 1) := by decide +kernel
theorem dX5_emptyAll_1 : decode cX5_emptyAll 1 = .ok (.iconst 0, 1) := by decide +kernel
theorem dX5_emptyAll_2 : decode cX5_emptyAll 2 = .ok (.putfield 9, 3) := by decide +kernel
theorem dX5_emptyAll_5 : decode cX5_emptyAll 5 = .ok (.aload_n 0, 1) := by decide +kernel
theorem dX5_emptyAll_6 : decode cX5_emptyAll 6 = .ok (.iconst 0, 1) := by decide +kernel
theorem dX5_emptyAll_7 : decode cX5_emptyAll 7 = .ok (.putfield 15, 3) := by decide +kernel
theorem dX5_emptyAll_10 : decode cX5_emptyAll 10 = .ok (.aload_n 0, 1) := by decide +kernel
theorem dX5_emptyAll_11 : decode cX5_emptyAll 11 = .ok (.iconst (-1), 1) := by decide +kernel
theorem dX5_emptyAll_12 : decode cX5_emptyAll 12 = .ok (.putfield 48, 3) := by decide +kernel
theorem dX5_emptyAll_15 : decode cX5_emptyAll 15 = .ok (.aload_n 0, 1) := by decide +kernel
theorem dX5_emptyAll_16 : decode cX5_emptyAll 16 = .ok (.getfield 38, 3) := by decide +kernel
theorem dX5_emptyAll_19 : decode cX5_emptyAll 19 = .ok (.iconst 0, 1) := by decide +kernel
theorem dX5_emptyAll_20 : decode cX5_emptyAll 20 = .ok (.invokevirtual 67, 3) := by decide +kernel
theorem dX5_emptyAll_23 : decode cX5_emptyAll 23 = .ok (.aload_n 0, 1) := by decide +kernel
theorem dX5_emptyAll_24 : decode cX5_emptyAll 24 = .ok (.iconst 0, 1) := by decide +kernel
theorem dX5_emptyAll_25 : decode cX5_emptyAll 25 = .ok (.putfield 21, 3) := by decide +kernel
theorem dX5_emptyAll_28 : decode cX5_emptyAll 28 = .ok (.aload_n 0, 1) := by decide +kernel
theorem dX5_emptyAll_29 : decode cX5_emptyAll 29 = .ok (.getfield 45, 3) := by decide +kernel
theorem dX5_emptyAll_32 : decode cX5_emptyAll 32 = .ok (.iconst 0, 1) := by decide +kernel
theorem dX5_emptyAll_33 : decode cX5_emptyAll 33 = .ok (.invokevirtual 67, 3) := by decide +kernel
theorem dX5_emptyAll_36 : decode cX5_emptyAll 36 = .ok (.return_, 1) := by decide +kernel
set_option maxRecDepth 100000 in
set_option maxHeartbeats 4000000 in
theorem c_X5_emptyAll_s {hp : List gA} {o : Nat} {num : Int32} {s : gSd} (H : gSide hp o num s) : gM yX5_emptyAll cX5_emptyAll 1 (none) 2 42 [.ref o] (hp) (0) (0) (fun v h => v = none ∧ (gSide h o num s.empt ∧ gFS hp h o)) := by
  refine gM_of (ls0 := [some (.ref o)]) (by decide +kernel) (Nat.le_of_ble_eq_true rfl) rfl fun X C E => ?_
  refine g_aload_n (q := 1) C dX5_emptyAll_0 rfl rfl ?_
  refine g_iconst (v := 0) (q := 2) C dX5_emptyAll_1 (by decide) rfl ?_
  refine g_putfield (q := 5) C fX5_9 dX5_emptyAll_2 rfl H.1 (Nat.le_of_ble_eq_true rfl) (Or.inl rfl) rfl rfl (by intro z h; cases h) ?_
  refine g_aload_n (q := 6) C dX5_emptyAll_5 rfl rfl ?_
  refine g_iconst (v := 0) (q := 7) C dX5_emptyAll_6 (by decide) rfl ?_
  refine g_putfield (q := 10) C fX5_15 dX5_emptyAll_7 rfl (gset_self H.1) (Nat.le_of_ble_eq_true rfl) (Or.inl rfl) rfl rfl (by intro z h; cases h) ?_
  refine g_aload_n (q := 11) C dX5_emptyAll_10 rfl rfl ?_
  refine g_iconst (v := (-1)) (q := 12) C dX5_emptyAll_11 (by decide) rfl ?_
  refine g_putfield (q := 15) C fX5_48 dX5_emptyAll_12 rfl (gset_self (gset_self H.1)) (Nat.le_of_ble_eq_true rfl) (Or.inl rfl) rfl rfl (by intro z h; cases h) ?_
  refine g_aload_n (q := 16) C dX5_emptyAll_15 rfl rfl ?_
  refine g_getfield (q := 19) C fX5_38 dX5_emptyAll_16 rfl (gset_self (gset_self (gset_self H.1))) rfl ?_
  refine g_iconst (v := 0) (q := 20) C dX5_emptyAll_19 (by decide) rfl ?_
  refine g_callVvp (q := 23) (As := [.int 0]) C gyX4_keep gvX4_keep t_502 (c_X4_keep_w (k := 0) (((H.2.1.kept (List.getElem?_set_ne (by omega)) (List.getElem?_set_ne (by omega))).kept (List.getElem?_set_ne (by omega)) (List.getElem?_set_ne (by omega))).kept (List.getElem?_set_ne (by omega)) (List.getElem?_set_ne (by omega))) (by decide)) dX5_emptyAll_20 rfl (gRw.obj (((H.2.1.kept (List.getElem?_set_ne (by omega)) (List.getElem?_set_ne (by omega))).kept (List.getElem?_set_ne (by omega)) (List.getElem?_set_ne (by omega))).kept (List.getElem?_set_ne (by omega)) (List.getElem?_set_ne (by omega)))) rfl rfl rfl (Nat.le_of_ble_eq_true rfl) (Nat.le_of_ble_eq_true rfl) (Nat.le_of_ble_eq_true rfl) (Nat.le_of_ble_eq_true rfl) (Nat.le_of_ble_eq_true rfl) rfl (fun h1 z1 => ?_)
  obtain ⟨HR1, fr1⟩ := z1
  rw [List.take_zero] at HR1
  refine g_aload_n (q := 24) C dX5_emptyAll_23 rfl rfl ?_
  refine g_iconst (v := 0) (q := 25) C dX5_emptyAll_24 (by decide) rfl ?_
  refine g_putfield (q := 28) C fX5_21 dX5_emptyAll_25 rfl (((fr1) (o) (by omega) (by omega)).trans (gset_self (gset_self (gset_self H.1)))) (Nat.le_of_ble_eq_true rfl) (Or.inl rfl) rfl rfl (by intro z h; cases h) ?_
  refine g_aload_n (q := 29) C dX5_emptyAll_28 rfl rfl ?_
  refine g_getfield (q := 32) C fX5_45 dX5_emptyAll_29 rfl (gset_self (((fr1) (o) (by omega) (by omega)).trans (gset_self (gset_self (gset_self H.1))))) rfl ?_
  refine g_iconst (v := 0) (q := 33) C dX5_emptyAll_32 (by decide) rfl ?_
  refine g_callVvp (q := 36) (As := [.int 0]) C gyX4_keep gvX4_keep t_502 (c_X4_keep_w (k := 0) (((((H.2.2.2.kept (List.getElem?_set_ne (by omega)) (List.getElem?_set_ne (by omega))).kept (List.getElem?_set_ne (by omega)) (List.getElem?_set_ne (by omega))).kept (List.getElem?_set_ne (by omega)) (List.getElem?_set_ne (by omega))).kept ((fr1) (o + 5) (by omega) (by omega)) ((fr1) (o + 6) (by omega) (by omega))).kept (List.getElem?_set_ne (by omega)) (List.getElem?_set_ne (by omega))) (by decide)) dX5_emptyAll_33 rfl (gRw.obj (((((H.2.2.2.kept (List.getElem?_set_ne (by omega)) (List.getElem?_set_ne (by omega))).kept (List.getElem?_set_ne (by omega)) (List.getElem?_set_ne (by omega))).kept (List.getElem?_set_ne (by omega)) (List.getElem?_set_ne (by omega))).kept ((fr1) (o + 5) (by omega) (by omega)) ((fr1) (o + 6) (by omega) (by omega))).kept (List.getElem?_set_ne (by omega)) (List.getElem?_set_ne (by omega)))) rfl rfl rfl (Nat.le_of_ble_eq_true rfl) (Nat.le_of_ble_eq_true rfl) (Nat.le_of_ble_eq_true rfl) (Nat.le_of_ble_eq_true rfl) (Nat.le_of_ble_eq_true rfl) rfl (fun h2 z2 => ?_)
  obtain ⟨HR2, fr2⟩ := z2
  rw [List.take_zero] at HR2
  exact E.2.1 _ _ _ _ _ dX5_emptyAll_36 rfl (Nat.le_of_ble_eq_true rfl) (Nat.le_of_ble_eq_true rfl) ⟨rfl, ⟨(((fr2) (o) (by omega) (by omega)).trans (gset_self (((fr1) (o) (by omega) (by omega)).trans (gset_self (gset_self (gset_self H.1)))))), ((HR1.kept (List.getElem?_set_ne (by omega)) (List.getElem?_set_ne (by omega))).kept ((fr2) (o + 1) (by omega) (by omega)) ((fr2) (o + 2) (by omega) (by omega))), ((((((H.2.2.1.kept (List.getElem?_set_ne (by omega)) (List.getElem?_set_ne (by omega))).kept (List.getElem?_set_ne (by omega)) (List.getElem?_set_ne (by omega))).kept (List.getElem?_set_ne (by omega)) (List.getElem?_set_ne (by omega))).kept ((fr1) (o + 3) (by omega) (by omega)) ((fr1) (o + 4) (by omega) (by omega))).kept (List.getElem?_set_ne (by omega)) (List.getElem?_set_ne (by omega))).kept ((fr2) (o + 3) (by omega) (by omega)) ((fr2) (o + 4) (by omega) (by omega))), HR2⟩, (gFS.trans (gFS.trans (gFS.trans (gFS.trans (gFS.trans (gFS.trans gFS.rf gFS.set) gFS.set) gFS.set) (gFS.of fr1 (by omega) (by omega) (by omega) (by omega))) gFS.set) (gFS.of fr2 (by omega) (by omega) (by omega) (by omega)))⟩
theorem dX5_restart_0 : decode cX5_restart 0 = .ok (.aload_n 0, 1) := by decide +kernel
theorem dX5_restart_1 : decode cX5_restart 1 = .ok (.invokevirtual 64, 3) := by decide +kernel
theorem dX5_restart_4 : decode cX5_restart 4 = .ok (.aload_n 0, 1) := by decide +kernel
theorem dX5_restart_5 : decode cX5_restart 5 = .ok (.iconst (-1), 1) := by decide +kernel
theorem dX5_restart_6 : decode cX5_restart 6 = .ok (.putfield 24, 3) := by decide +kernel
theorem dX5_restart_9 : decode cX5_restart 9 = .ok (.aload_n 0, 1) := by decide +kernel
theorem dX5_restart_10 : decode cX5_restart 10 = .ok (.iload_n 1, 1) := by decide +kernel
theorem dX5_restart_11 : decode cX5_restart 11 = .ok (.putfield 18, 3) := by decide +kernel
theorem dX5_restart_14 : decode cX5_restart 14 = .ok (.aload_n 0, 1) := by decide +kernel
theorem dX5_restart_15 : decode cX5_restart 15 = .ok (.iconst 0, 1) := by decide +kernel
theorem dX5_restart_16 : decode cX5_restart 16 = .ok (.putfield 30, 3) := by decide +kernel
theorem dX5_restart_19 : decode cX5_restart 19 = .ok (.aload_n 0, 1) := by decide +kernel
theorem dX5_restart_20 : decode cX5_restart 20 = .ok (.getfield 42, 3) := by decide +kernel
theorem dX5_restart_23 : decode cX5_restart 23 = .ok (.iconst 0, 1) := by decide +kernel
theorem dX5_restart_24 : decode cX5_restart 24 = .ok (.invokevirtual 67, 3) := by decide +kernel
theorem dX5_restart_27 : decode cX5_restart 27 = .ok (.aload_n 0, 1) := by decide +kernel
theorem dX5_restart_28 : decode cX5_restart 28 = .ok (.iconst (-1), 1) := by decide +kernel
theorem dX5_restart_29 : decode cX5_restart 29 = .ok (.putfield 55, 3) := by decide +kernel
theorem dX5_restart_32 : decode cX5_restart 32 = .ok (.aload_n 0, 1) := by decide +kernel
theorem dX5_restart_33 : decode cX5_restart 33 = .ok (.iconst 0, 1) := by decide +kernel
theorem dX5_restart_34 : decode cX5_restart 34 = .ok (.putfield 58, 3) := by decide +kernel
theorem dX5_restart_37 : decode cX5_restart 37 = .ok (.return_, 1) := by decide +kernel
set_option maxRecDepth 100000 in
set_option maxHeartbeats 4000000 in
theorem c_X5_restart_s {hp : List gA} {o : Nat} {num : Int32} {s : gSd} {x : Int32} (H : gSide hp o num s) : gM yX5_restart cX5_restart 2 (none) 3 62 [.ref o, .int x] (hp) (0) (0) (fun v h => v = none ∧ (gSide h o num (s.rst x) ∧ gFS hp h o)) := by
  refine gM_of (ls0 := [some (.ref o), some (.int x)]) (by decide +kernel) (Nat.le_of_ble_eq_true rfl) rfl fun X C E => ?_
  refine g_aload_n (q := 1) C dX5_restart_0 rfl rfl ?_
  refine g_callVvp (q := 4) (As := []) C gyX5_emptyAll gvX5_emptyAll t_498 (c_X5_emptyAll_s H) dX5_restart_1 rfl H.1 rfl rfl rfl (Nat.le_of_ble_eq_true rfl) (Nat.le_of_ble_eq_true rfl) (Nat.le_of_ble_eq_true rfl) (Nat.le_of_ble_eq_true rfl) (Nat.le_of_ble_eq_true rfl) rfl (fun hs1 zs1 => ?_)
  obtain ⟨HS1, fc1⟩ := zs1
  refine g_aload_n (q := 5) C dX5_restart_4 rfl rfl ?_
  refine g_iconst (v := (-1)) (q := 6) C dX5_restart_5 (by decide) rfl ?_
  refine g_putfield (q := 9) C fX5_24 dX5_restart_6 rfl HS1.1 (Nat.le_of_ble_eq_true rfl) (Or.inl rfl) rfl rfl (by intro z h; cases h) ?_
  refine g_aload_n (q := 10) C dX5_restart_9 rfl rfl ?_
  refine g_iload_n (q := 11) C dX5_restart_10 rfl rfl ?_
  refine g_putfield (q := 14) C fX5_18 dX5_restart_11 rfl (gset_self HS1.1) (Nat.le_of_ble_eq_true rfl) (Or.inl rfl) rfl rfl (by intro z h; cases h) ?_
  refine g_aload_n (q := 15) C dX5_restart_14 rfl rfl ?_
  refine g_iconst (v := 0) (q := 16) C dX5_restart_15 (by decide) rfl ?_
  refine g_putfield (q := 19) C fX5_30 dX5_restart_16 rfl (gset_self (gset_self HS1.1)) (Nat.le_of_ble_eq_true rfl) (Or.inl rfl) rfl rfl (by intro z h; cases h) ?_
  refine g_aload_n (q := 20) C dX5_restart_19 rfl rfl ?_
  refine g_getfield (q := 23) C fX5_42 dX5_restart_20 rfl (gset_self (gset_self (gset_self HS1.1))) rfl ?_
  refine g_iconst (v := 0) (q := 24) C dX5_restart_23 (by decide) rfl ?_
  refine g_callVvp (q := 27) (As := [.int 0]) C gyX4_keep gvX4_keep t_502 (c_X4_keep_w (k := 0) (((HS1.2.2.1.kept (List.getElem?_set_ne (by omega)) (List.getElem?_set_ne (by omega))).kept (List.getElem?_set_ne (by omega)) (List.getElem?_set_ne (by omega))).kept (List.getElem?_set_ne (by omega)) (List.getElem?_set_ne (by omega))) (by decide)) dX5_restart_24 rfl (gRw.obj (((HS1.2.2.1.kept (List.getElem?_set_ne (by omega)) (List.getElem?_set_ne (by omega))).kept (List.getElem?_set_ne (by omega)) (List.getElem?_set_ne (by omega))).kept (List.getElem?_set_ne (by omega)) (List.getElem?_set_ne (by omega)))) rfl rfl rfl (Nat.le_of_ble_eq_true rfl) (Nat.le_of_ble_eq_true rfl) (Nat.le_of_ble_eq_true rfl) (Nat.le_of_ble_eq_true rfl) (Nat.le_of_ble_eq_true rfl) rfl (fun h3 z3 => ?_)
  obtain ⟨HR3, fr3⟩ := z3
  rw [List.take_zero] at HR3
  refine g_aload_n (q := 28) C dX5_restart_27 rfl rfl ?_
  refine g_iconst (v := (-1)) (q := 29) C dX5_restart_28 (by decide) rfl ?_
  refine g_putfield (q := 32) C fX5_55 dX5_restart_29 rfl (((fr3) (o) (by omega) (by omega)).trans (gset_self (gset_self (gset_self HS1.1)))) (Nat.le_of_ble_eq_true rfl) (Or.inl rfl) rfl rfl (by intro z h; cases h) ?_
  refine g_aload_n (q := 33) C dX5_restart_32 rfl rfl ?_
  refine g_iconst (v := 0) (q := 34) C dX5_restart_33 (by decide) rfl ?_
  refine g_putfield (q := 37) C fX5_58 dX5_restart_34 rfl (gset_self (((fr3) (o) (by omega) (by omega)).trans (gset_self (gset_self (gset_self HS1.1))))) (Nat.le_of_ble_eq_true rfl) (Or.inl rfl) rfl rfl (by intro z h; cases h) ?_
  exact E.2.1 _ _ _ _ _ dX5_restart_37 rfl (Nat.le_of_ble_eq_true rfl) (Nat.le_of_ble_eq_true rfl) ⟨rfl, ⟨(gset_self (gset_self (((fr3) (o) (by omega) (by omega)).trans (gset_self (gset_self (gset_self HS1.1)))))), ((((((HS1.2.1.kept (List.getElem?_set_ne (by omega)) (List.getElem?_set_ne (by omega))).kept (List.getElem?_set_ne (by omega)) (List.getElem?_set_ne (by omega))).kept (List.getElem?_set_ne (by omega)) (List.getElem?_set_ne (by omega))).kept ((fr3) (o + 1) (by omega) (by omega)) ((fr3) (o + 2) (by omega) (by omega))).kept (List.getElem?_set_ne (by omega)) (List.getElem?_set_ne (by omega))).kept (List.getElem?_set_ne (by omega)) (List.getElem?_set_ne (by omega))), ((HR3.kept (List.getElem?_set_ne (by omega)) (List.getElem?_set_ne (by omega))).kept (List.getElem?_set_ne (by omega)) (List.getElem?_set_ne (by omega))), ((((((HS1.2.2.2.kept (List.getElem?_set_ne (by omega)) (List.getElem?_set_ne (by omega))).kept (List.getElem?_set_ne (by omega)) (List.getElem?_set_ne (by omega))).kept (List.getElem?_set_ne (by omega)) (List.getElem?_set_ne (by omega))).kept ((fr3) (o + 5) (by omega) (by omega)) ((fr3) (o + 6) (by omega) (by omega))).kept (List.getElem?_set_ne (by omega)) (List.getElem?_set_ne (by omega))).kept (List.getElem?_set_ne (by omega)) (List.getElem?_set_ne (by omega)))⟩, (gFS.trans (gFS.trans (gFS.trans (gFS.trans (gFS.trans (gFS.trans (gFS.trans gFS.rf fc1) gFS.set) gFS.set) gFS.set) (gFS.of fr3 (by omega) (by omega) (by omega) (by omega))) gFS.set) gFS.set)⟩
theorem dX5_breakOff_0 : decode cX5_breakOff 0 = .ok (.aload_n 0, 1) := by decide +kernel
theorem dX5_breakOff_1 : decode cX5_breakOff 1 = .ok (.invokevirtual 75, 3) := by decide +kernel
theorem dX5_breakOff_4 : decode cX5_breakOff 4 = .ok (.aload_n 0, 1) := by decide +kernel
theorem dX5_breakOff_5 : decode cX5_breakOff 5 = .ok (.getfield 38, 3) := by decide +kernel
theorem dX5_breakOff_8 : decode cX5_breakOff 8 = .ok (.iconst 0, 1) := by decide +kernel
theorem dX5_breakOff_9 : decode cX5_breakOff 9 = .ok (.invokevirtual 67, 3) := by decide +kernel
theorem dX5_breakOff_12 : decode cX5_breakOff 12 = .ok (.aload_n 0, 1) := by decide +kernel
theorem dX5_breakOff_13 : decode cX5_breakOff 13 = .ok (.iconst 0, 1) := by decide +kernel
theorem dX5_breakOff_14 : decode cX5_breakOff 14 = .ok (.putfield 21, 3) := by decide +kernel
theorem dX5_breakOff_17 : decode cX5_breakOff 17 = .ok (.aload_n 0, 1) := by decide +kernel
theorem dX5_breakOff_18 : decode cX5_breakOff 18 = .ok (.getfield 45, 3) := by decide +kernel
theorem dX5_breakOff_21 : decode cX5_breakOff 21 = .ok (.iconst 0, 1) := by decide +kernel
theorem dX5_breakOff_22 : decode cX5_breakOff 22 = .ok (.invokevirtual 67, 3) := by decide +kernel
theorem dX5_breakOff_25 : decode cX5_breakOff 25 = .ok (.return_, 1) := by decide +kernel
set_option maxRecDepth 100000 in
set_option maxHeartbeats 4000000 in
theorem c_X5_breakOff_s {hp : List gA} {o : Nat} {num : Int32} {s : gSd} (H : gSide hp o num s) : gM yX5_breakOff cX5_breakOff 1 (none) 2 42 [.ref o] (hp) (0) (0) (fun v h => v = none ∧ (gSide h o num s.brk ∧ gFS hp h o)) := by
  refine gM_of (ls0 := [some (.ref o)]) (by decide +kernel) (Nat.le_of_ble_eq_true rfl) rfl fun X C E => ?_
  refine g_aload_n (q := 1) C dX5_breakOff_0 rfl rfl ?_
  refine g_callVvp (q := 4) (As := []) C gyX5_passPending gvX5_passPending t_666 (c_X5_passPending_s H) dX5_breakOff_1 rfl H.1 rfl rfl rfl (Nat.le_of_ble_eq_true rfl) (Nat.le_of_ble_eq_true rfl) (Nat.le_of_ble_eq_true rfl) (Nat.le_of_ble_eq_true rfl) (Nat.le_of_ble_eq_true rfl) rfl (fun hs1 zs1 => ?_)
  obtain ⟨HS1, fc1⟩ := zs1
  refine g_aload_n (q := 5) C dX5_breakOff_4 rfl rfl ?_
  refine g_getfield (q := 8) C fX5_38 dX5_breakOff_5 rfl HS1.1 rfl ?_
  refine g_iconst (v := 0) (q := 9) C dX5_breakOff_8 (by decide) rfl ?_
  refine g_callVvp (q := 12) (As := [.int 0]) C gyX4_keep gvX4_keep t_502 (c_X4_keep_w (k := 0) HS1.2.1 (by decide)) dX5_breakOff_9 rfl (gRw.obj HS1.2.1) rfl rfl rfl (Nat.le_of_ble_eq_true rfl) (Nat.le_of_ble_eq_true rfl) (Nat.le_of_ble_eq_true rfl) (Nat.le_of_ble_eq_true rfl) (Nat.le_of_ble_eq_true rfl) rfl (fun h4 z4 => ?_)
  obtain ⟨HR4, fr4⟩ := z4
  rw [List.take_zero] at HR4
  refine g_aload_n (q := 13) C dX5_breakOff_12 rfl rfl ?_
  refine g_iconst (v := 0) (q := 14) C dX5_breakOff_13 (by decide) rfl ?_
  refine g_putfield (q := 17) C fX5_21 dX5_breakOff_14 rfl (((fr4) (o) (by omega) (by omega)).trans HS1.1) (Nat.le_of_ble_eq_true rfl) (Or.inl rfl) rfl rfl (by intro z h; cases h) ?_
  refine g_aload_n (q := 18) C dX5_breakOff_17 rfl rfl ?_
  refine g_getfield (q := 21) C fX5_45 dX5_breakOff_18 rfl (gset_self (((fr4) (o) (by omega) (by omega)).trans HS1.1)) rfl ?_
  refine g_iconst (v := 0) (q := 22) C dX5_breakOff_21 (by decide) rfl ?_
  refine g_callVvp (q := 25) (As := [.int 0]) C gyX4_keep gvX4_keep t_502 (c_X4_keep_w (k := 0) ((HS1.2.2.2.kept ((fr4) (o + 5) (by omega) (by omega)) ((fr4) (o + 6) (by omega) (by omega))).kept (List.getElem?_set_ne (by omega)) (List.getElem?_set_ne (by omega))) (by decide)) dX5_breakOff_22 rfl (gRw.obj ((HS1.2.2.2.kept ((fr4) (o + 5) (by omega) (by omega)) ((fr4) (o + 6) (by omega) (by omega))).kept (List.getElem?_set_ne (by omega)) (List.getElem?_set_ne (by omega)))) rfl rfl rfl (Nat.le_of_ble_eq_true rfl) (Nat.le_of_ble_eq_true rfl) (Nat.le_of_ble_eq_true rfl) (Nat.le_of_ble_eq_true rfl) (Nat.le_of_ble_eq_true rfl) rfl (fun h5 z5 => ?_)
  obtain ⟨HR5, fr5⟩ := z5
  rw [List.take_zero] at HR5
  exact E.2.1 _ _ _ _ _ dX5_breakOff_25 rfl (Nat.le_of_ble_eq_true rfl) (Nat.le_of_ble_eq_true rfl) ⟨rfl, ⟨(((fr5) (o) (by omega) (by omega)).trans (gset_self (((fr4) (o) (by omega) (by omega)).trans HS1.1))), ((HR4.kept (List.getElem?_set_ne (by omega)) (List.getElem?_set_ne (by omega))).kept ((fr5) (o + 1) (by omega) (by omega)) ((fr5) (o + 2) (by omega) (by omega))), (((HS1.2.2.1.kept ((fr4) (o + 3) (by omega) (by omega)) ((fr4) (o + 4) (by omega) (by omega))).kept (List.getElem?_set_ne (by omega)) (List.getElem?_set_ne (by omega))).kept ((fr5) (o + 3) (by omega) (by omega)) ((fr5) (o + 4) (by omega) (by omega))), HR5⟩, (gFS.trans (gFS.trans (gFS.trans (gFS.trans gFS.rf fc1) (gFS.of fr4 (by omega) (by omega) (by omega) (by omega))) gFS.set) (gFS.of fr5 (by omega) (by omega) (by omega) (by omega)))⟩
theorem dX5_takeEmpty_0 : decode cX5_takeEmpty 0 = .ok (.aload_n 0, 1) := by decide +kernel
theorem dX5_takeEmpty_1 : decode cX5_takeEmpty 1 = .ok (.getfield 42, 3) := by decide +kernel
theorem dX5_takeEmpty_4 : decode cX5_takeEmpty 4 = .ok (.iconst 0, 1) := by decide +kernel
theorem dX5_takeEmpty_5 : decode cX5_takeEmpty 5 = .ok (.invokevirtual 67, 3) := by decide +kernel
theorem dX5_takeEmpty_8 : decode cX5_takeEmpty 8 = .ok (.aload_n 0, 1) := by decide +kernel
theorem dX5_takeEmpty_9 : decode cX5_takeEmpty 9 = .ok (.dup, 1) := by decide +kernel
theorem dX5_takeEmpty_10 : decode cX5_takeEmpty 10 = .ok (.getfield 30, 3) := by decide +kernel
theorem dX5_takeEmpty_13 : decode cX5_takeEmpty 13 = .ok (.iconst 1, 1) := by decide +kernel
theorem dX5_takeEmpty_14 : decode cX5_takeEmpty 14 = .ok (.iadd, 1) := by decide +kernel
theorem dX5_takeEmpty_15 : decode cX5_takeEmpty 15 = .ok (.putfield 30, 3) := by decide +kernel
theorem dX5_takeEmpty_18 : decode cX5_takeEmpty 18 = .ok (.return_, 1) := by decide +kernel
set_option maxRecDepth 100000 in
set_option maxHeartbeats 4000000 in
theorem c_X5_takeEmpty_s {hp : List gA} {o : Nat} {num : Int32} {s : gSd} (H : gSide hp o num s) : gM yX5_takeEmpty cX5_takeEmpty 1 (none) 2 42 [.ref o] (hp) (0) (0) (fun v h => v = none ∧ (gSide h o num s.emptyCame ∧ gFS hp h o)) := by
  refine gM_of (ls0 := [some (.ref o)]) (by decide +kernel) (Nat.le_of_ble_eq_true rfl) rfl fun X C E => ?_
  refine g_aload_n (q := 1) C dX5_takeEmpty_0 rfl rfl ?_
  refine g_getfield (q := 4) C fX5_42 dX5_takeEmpty_1 rfl H.1 rfl ?_
  refine g_iconst (v := 0) (q := 5) C dX5_takeEmpty_4 (by decide) rfl ?_
  refine g_callVvp (q := 8) (As := [.int 0]) C gyX4_keep gvX4_keep t_502 (c_X4_keep_w (k := 0) H.2.2.1 (by decide)) dX5_takeEmpty_5 rfl (gRw.obj H.2.2.1) rfl rfl rfl (Nat.le_of_ble_eq_true rfl) (Nat.le_of_ble_eq_true rfl) (Nat.le_of_ble_eq_true rfl) (Nat.le_of_ble_eq_true rfl) (Nat.le_of_ble_eq_true rfl) rfl (fun h6 z6 => ?_)
  obtain ⟨HR6, fr6⟩ := z6
  rw [List.take_zero] at HR6
  refine g_aload_n (q := 9) C dX5_takeEmpty_8 rfl rfl ?_
  refine g_dup (q := 10) C dX5_takeEmpty_9 rfl rfl ?_
  refine g_getfield (q := 13) C fX5_30 dX5_takeEmpty_10 rfl (((fr6) (o) (by omega) (by omega)).trans H.1) rfl ?_
  refine g_iconst (v := 1) (q := 14) C dX5_takeEmpty_13 (by decide) rfl ?_
  refine g_iadd (q := 15) C dX5_takeEmpty_14 rfl ?_
  refine g_putfield (q := 18) C fX5_30 dX5_takeEmpty_15 rfl (((fr6) (o) (by omega) (by omega)).trans H.1) (Nat.le_of_ble_eq_true rfl) (Or.inl rfl) rfl rfl (by intro z h; cases h) ?_
  exact E.2.1 _ _ _ _ _ dX5_takeEmpty_18 rfl (Nat.le_of_ble_eq_true rfl) (Nat.le_of_ble_eq_true rfl) ⟨rfl, ⟨(gset_self (((fr6) (o) (by omega) (by omega)).trans H.1)), ((H.2.1.kept ((fr6) (o + 1) (by omega) (by omega)) ((fr6) (o + 2) (by omega) (by omega))).kept (List.getElem?_set_ne (by omega)) (List.getElem?_set_ne (by omega))), (HR6.kept (List.getElem?_set_ne (by omega)) (List.getElem?_set_ne (by omega))), ((H.2.2.2.kept ((fr6) (o + 5) (by omega) (by omega)) ((fr6) (o + 6) (by omega) (by omega))).kept (List.getElem?_set_ne (by omega)) (List.getElem?_set_ne (by omega)))⟩, (gFS.trans (gFS.trans gFS.rf (gFS.of fr6 (by omega) (by omega) (by omega) (by omega))) gFS.set)⟩
theorem dX5_takeWhole_0 : decode cX5_takeWhole 0 = .ok (.aload_n 0, 1) := by decide +kernel
theorem dX5_takeWhole_1 : decode cX5_takeWhole 1 = .ok (.getfield 42, 3) := by decide +kernel
theorem dX5_takeWhole_4 : decode cX5_takeWhole 4 = .ok (.aload_n 0, 1) := by decide +kernel
theorem dX5_takeWhole_5 : decode cX5_takeWhole 5 = .ok (.getfield 45, 3) := by decide +kernel
theorem dX5_takeWhole_8 : decode cX5_takeWhole 8 = .ok (.invokevirtual 71, 3) := by decide +kernel
theorem dX5_takeWhole_11 : decode cX5_takeWhole 11 = .ok (.aload_n 0, 1) := by decide +kernel
theorem dX5_takeWhole_12 : decode cX5_takeWhole 12 = .ok (.getfield 45, 3) := by decide +kernel
theorem dX5_takeWhole_15 : decode cX5_takeWhole 15 = .ok (.iconst 0, 1) := by decide +kernel
theorem dX5_takeWhole_16 : decode cX5_takeWhole 16 = .ok (.invokevirtual 67, 3) := by decide +kernel
theorem dX5_takeWhole_19 : decode cX5_takeWhole 19 = .ok (.aload_n 0, 1) := by decide +kernel
theorem dX5_takeWhole_20 : decode cX5_takeWhole 20 = .ok (.dup, 1) := by decide +kernel
theorem dX5_takeWhole_21 : decode cX5_takeWhole 21 = .ok (.getfield 30, 3) := by decide +kernel
theorem dX5_takeWhole_24 : decode cX5_takeWhole 24 = .ok (.iconst 1, 1) := by decide +kernel
theorem dX5_takeWhole_25 : decode cX5_takeWhole 25 = .ok (.iadd, 1) := by decide +kernel
theorem dX5_takeWhole_26 : decode cX5_takeWhole 26 = .ok (.putfield 30, 3) := by decide +kernel
theorem dX5_takeWhole_29 : decode cX5_takeWhole 29 = .ok (.return_, 1) := by decide +kernel
set_option maxRecDepth 100000 in
set_option maxHeartbeats 4000000 in
theorem c_X5_takeWhole_s {hp : List gA} {o : Nat} {num : Int32} {s : gSd} (H : gSide hp o num s) : gM yX5_takeWhole cX5_takeWhole 1 (none) 2 82 [.ref o] (hp) (0) (0) (fun v h => v = none ∧ (gSide h o num s.whole ∧ gFS hp h o)) := by
  refine gM_of (ls0 := [some (.ref o)]) (by decide +kernel) (Nat.le_of_ble_eq_true rfl) rfl fun X C E => ?_
  refine g_aload_n (q := 1) C dX5_takeWhole_0 rfl rfl ?_
  refine g_getfield (q := 4) C fX5_42 dX5_takeWhole_1 rfl H.1 rfl ?_
  refine g_aload_n (q := 5) C dX5_takeWhole_4 rfl rfl ?_
  refine g_getfield (q := 8) C fX5_45 dX5_takeWhole_5 rfl H.1 rfl ?_
  refine g_callVvp (q := 11) (As := [.ref (o + 5)]) C gyX4_copy gvX4_copy t_694 (c_X4_copy_w H.2.2.1 H.2.2.2 (gRw.le H.2.2.2).1) dX5_takeWhole_8 rfl (gRw.obj H.2.2.1) rfl rfl rfl (Nat.le_of_ble_eq_true rfl) (Nat.le_of_ble_eq_true rfl) (Nat.le_of_ble_eq_true rfl) (Nat.le_of_ble_eq_true rfl) (Nat.le_of_ble_eq_true rfl) rfl (fun h7 z7 => ?_)
  obtain ⟨HR7, fr7⟩ := z7
  refine g_aload_n (q := 12) C dX5_takeWhole_11 rfl rfl ?_
  refine g_getfield (q := 15) C fX5_45 dX5_takeWhole_12 rfl (((fr7) (o) (by omega) (by omega)).trans H.1) rfl ?_
  refine g_iconst (v := 0) (q := 16) C dX5_takeWhole_15 (by decide) rfl ?_
  refine g_callVvp (q := 19) (As := [.int 0]) C gyX4_keep gvX4_keep t_502 (c_X4_keep_w (k := 0) (H.2.2.2.kept ((fr7) (o + 5) (by omega) (by omega)) ((fr7) (o + 6) (by omega) (by omega))) (by decide)) dX5_takeWhole_16 rfl (gRw.obj (H.2.2.2.kept ((fr7) (o + 5) (by omega) (by omega)) ((fr7) (o + 6) (by omega) (by omega)))) rfl rfl rfl (Nat.le_of_ble_eq_true rfl) (Nat.le_of_ble_eq_true rfl) (Nat.le_of_ble_eq_true rfl) (Nat.le_of_ble_eq_true rfl) (Nat.le_of_ble_eq_true rfl) rfl (fun h8 z8 => ?_)
  obtain ⟨HR8, fr8⟩ := z8
  rw [List.take_zero] at HR8
  refine g_aload_n (q := 20) C dX5_takeWhole_19 rfl rfl ?_
  refine g_dup (q := 21) C dX5_takeWhole_20 rfl rfl ?_
  refine g_getfield (q := 24) C fX5_30 dX5_takeWhole_21 rfl (((fr8) (o) (by omega) (by omega)).trans (((fr7) (o) (by omega) (by omega)).trans H.1)) rfl ?_
  refine g_iconst (v := 1) (q := 25) C dX5_takeWhole_24 (by decide) rfl ?_
  refine g_iadd (q := 26) C dX5_takeWhole_25 rfl ?_
  refine g_putfield (q := 29) C fX5_30 dX5_takeWhole_26 rfl (((fr8) (o) (by omega) (by omega)).trans (((fr7) (o) (by omega) (by omega)).trans H.1)) (Nat.le_of_ble_eq_true rfl) (Or.inl rfl) rfl rfl (by intro z h; cases h) ?_
  exact E.2.1 _ _ _ _ _ dX5_takeWhole_29 rfl (Nat.le_of_ble_eq_true rfl) (Nat.le_of_ble_eq_true rfl) ⟨rfl, ⟨(gset_self (((fr8) (o) (by omega) (by omega)).trans (((fr7) (o) (by omega) (by omega)).trans H.1))), (((H.2.1.kept ((fr7) (o + 1) (by omega) (by omega)) ((fr7) (o + 2) (by omega) (by omega))).kept ((fr8) (o + 1) (by omega) (by omega)) ((fr8) (o + 2) (by omega) (by omega))).kept (List.getElem?_set_ne (by omega)) (List.getElem?_set_ne (by omega))), ((HR7.kept ((fr8) (o + 3) (by omega) (by omega)) ((fr8) (o + 4) (by omega) (by omega))).kept (List.getElem?_set_ne (by omega)) (List.getElem?_set_ne (by omega))), (HR8.kept (List.getElem?_set_ne (by omega)) (List.getElem?_set_ne (by omega)))⟩, (gFS.trans (gFS.trans (gFS.trans gFS.rf (gFS.of fr7 (by omega) (by omega) (by omega) (by omega))) (gFS.of fr8 (by omega) (by omega) (by omega) (by omega))) gFS.set)⟩
def gSd.left (s : gSd) : Int32 := gmax 0 (nI s.out.length - s.th)
def gSd.cut (s : gSd) (x : Int32) : gSd := ((s.set 7 (gmin s.left x)).set 8 (if s.left ≤ gmin s.left x then 0 else 1))
theorem dX5_cutNext_0 : decode cX5_cutNext 0 = .ok (.iconst 0, 1) := by decide +kernel
theorem dX5_cutNext_1 : decode cX5_cutNext 1 = .ok (.aload_n 0, 1) := by decide +kernel
theorem dX5_cutNext_2 : decode cX5_cutNext 2 = .ok (.getfield 38, 3) := by decide +kernel
theorem dX5_cutNext_5 : decode cX5_cutNext 5 = .ok (.invokevirtual 78, 3) := by decide +kernel
theorem dX5_cutNext_8 : decode cX5_cutNext 8 = .ok (.aload_n 0, 1) := by decide +kernel
theorem dX5_cutNext_9 : decode cX5_cutNext 9 = .ok (.getfield 21, 3) := by decide +kernel
theorem dX5_cutNext_12 : decode cX5_cutNext 12 = .ok (.isub, 1) := by decide +kernel
theorem dX5_cutNext_13 : decode cX5_cutNext 13 = .ok (.invokestatic 82, 3) := by decide +kernel
theorem dX5_cutNext_16 : decode cX5_cutNext 16 = .ok (.istore_n 2, 1) := by decide +kernel
theorem dX5_cutNext_17 : decode cX5_cutNext 17 = .ok (.aload_n 0, 1) := by decide +kernel
theorem dX5_cutNext_18 : decode cX5_cutNext 18 = .ok (.iload_n 2, 1) := by decide +kernel
theorem dX5_cutNext_19 : decode cX5_cutNext 19 = .ok (.iload_n 1, 1) := by decide +kernel
theorem dX5_cutNext_20 : decode cX5_cutNext 20 = .ok (.invokestatic 88, 3) := by decide +kernel
theorem dX5_cutNext_23 : decode cX5_cutNext 23 = .ok (.putfield 48, 3) := by decide +kernel
theorem dX5_cutNext_26 : decode cX5_cutNext 26 = .ok (.aload_n 0, 1) := by decide +kernel
theorem dX5_cutNext_27 : decode cX5_cutNext 27 = .ok (.iload_n 2, 1) := by decide +kernel
theorem dX5_cutNext_28 : decode cX5_cutNext 28 = .ok (.aload_n 0, 1) := by decide +kernel
theorem dX5_cutNext_29 : decode cX5_cutNext 29 = .ok (.getfield 48, 3) := by decide +kernel
theorem dX5_cutNext_32 : decode cX5_cutNext 32 = .ok (.if_icmp .le 7, 3) := by decide +kernel
theorem dX5_cutNext_35 : decode cX5_cutNext 35 = .ok (.iconst 1, 1) := by decide +kernel
theorem dX5_cutNext_36 : decode cX5_cutNext 36 = .ok (.goto 4, 3) := by decide +kernel
theorem dX5_cutNext_39 : decode cX5_cutNext 39 = .ok (.iconst 0, 1) := by decide +kernel
theorem dX5_cutNext_40 : decode cX5_cutNext 40 = .ok (.putfield 51, 3) := by decide +kernel
theorem dX5_cutNext_43 : decode cX5_cutNext 43 = .ok (.aload_n 0, 1) := by decide +kernel
theorem dX5_cutNext_44 : decode cX5_cutNext 44 = .ok (.invokevirtual 91, 3) := by decide +kernel
theorem dX5_cutNext_47 : decode cX5_cutNext 47 = .ok (.ireturn, 1) := by decide +kernel
set_option maxRecDepth 100000 in
set_option maxHeartbeats 4000000 in
theorem c_X5_cutNext_s {hp : List gA} {o : Nat} {num : Int32} {s : gSd} {x : Int32} (H : gSide hp o num s) : gM yX5_cutNext cX5_cutNext 3 ((some .int)) 1 21 [.ref o, .int x] (hp) (0) (0) (fun v h => v = some (.int (s.cut x).pk) ∧ (gSide h o num (s.cut x) ∧ gFS hp h o)) := by
  refine gM_of (ls0 := [some (.ref o), some (.int x), none]) (by decide +kernel) (Nat.le_of_ble_eq_true rfl) rfl fun X C E => ?_
  refine g_iconst (v := 0) (q := 1) C dX5_cutNext_0 (by decide) rfl ?_
  refine g_aload_n (q := 2) C dX5_cutNext_1 rfl rfl ?_
  refine g_getfield (q := 5) C fX5_38 dX5_cutNext_2 rfl H.1 rfl ?_
  refine g_callVi (q := 8) (As := []) C gyX4_size gvX4_size t_687 (c_X4_size (gRw.obj H.2.1)) dX5_cutNext_5 rfl (gRw.obj H.2.1) rfl rfl rfl (Nat.le_of_ble_eq_true rfl) (Nat.le_of_ble_eq_true rfl) (Nat.le_of_ble_eq_true rfl) (Nat.le_of_ble_eq_true rfl) (Nat.le_of_ble_eq_true rfl) rfl ?_
  refine g_aload_n (q := 9) C dX5_cutNext_8 rfl rfl ?_
  refine g_getfield (q := 12) C fX5_21 dX5_cutNext_9 rfl H.1 rfl ?_
  refine g_isub (q := 13) C dX5_cutNext_12 rfl ?_
  refine g_callSi (q := 16) (As := [.int 0, .int _]) C gyJ9_max_7cf53 t_72 t_726 (c_J9_max_7cf53) dX5_cutNext_13 rfl rfl rfl (Nat.le_of_ble_eq_true rfl) (Nat.le_of_ble_eq_true rfl) (Nat.le_of_ble_eq_true rfl) (Nat.le_of_ble_eq_true rfl) (Nat.le_of_ble_eq_true rfl) rfl ?_
  refine g_istore_n (q := 17) C dX5_cutNext_16 (Nat.le_of_ble_eq_true rfl) (by simp only [gset]; rfl) rfl ?_
  refine g_aload_n (q := 18) C dX5_cutNext_17 rfl rfl ?_
  refine g_iload_n (q := 19) C dX5_cutNext_18 rfl rfl ?_
  refine g_iload_n (q := 20) C dX5_cutNext_19 rfl rfl ?_
  refine g_callSi (q := 23) (As := [.int s.left, .int x]) C gyJ9_min_7cf53 t_411 t_727 (c_J9_min_7cf53) dX5_cutNext_20 rfl rfl rfl (Nat.le_of_ble_eq_true rfl) (Nat.le_of_ble_eq_true rfl) (Nat.le_of_ble_eq_true rfl) (Nat.le_of_ble_eq_true rfl) (Nat.le_of_ble_eq_true rfl) rfl ?_
  refine g_putfield (q := 26) C fX5_48 dX5_cutNext_23 rfl H.1 (Nat.le_of_ble_eq_true rfl) (Or.inl rfl) rfl rfl (by intro z h; cases h) ?_
  refine g_aload_n (q := 27) C dX5_cutNext_26 rfl rfl ?_
  refine g_iload_n (q := 28) C dX5_cutNext_27 rfl rfl ?_
  refine g_aload_n (q := 29) C dX5_cutNext_28 rfl rfl ?_
  refine g_getfield (q := 32) C fX5_48 dX5_cutNext_29 rfl (gset_self H.1) rfl ?_
  refine g_icmp_le (t := 39) (q := 35) C dX5_cutNext_32 (by decide) rfl (fun c_32 => ?_) (fun c_32 => ?_)
  · -- to 39
    refine g_iconst (v := 0) (q := 40) C dX5_cutNext_39 (by decide) rfl ?_
    refine g_putfield (q := 43) C fX5_51 dX5_cutNext_40 rfl (gset_self H.1) (Nat.le_of_ble_eq_true rfl) (Or.inl rfl) rfl rfl (by intro z h; cases h) ?_
    refine g_aload_n (q := 44) C dX5_cutNext_43 rfl rfl ?_
    refine g_callVi (q := 47) (As := []) C gyX5_pendingKind gvX5_pendingKind t_728 (c_X5_pendingKind_s (s := ((s.set 7 (gmin s.left x)).set 8 0)) (And.left (H.put (gset_self (gset_self H.1)) (fun k hk => by repeat (first | rfl | rw [List.getElem?_set_ne (Ne.symm hk)])) rfl rfl rfl))) dX5_cutNext_44 rfl (gset_self (gset_self H.1)) rfl rfl rfl (Nat.le_of_ble_eq_true rfl) (Nat.le_of_ble_eq_true rfl) (Nat.le_of_ble_eq_true rfl) (Nat.le_of_ble_eq_true rfl) (Nat.le_of_ble_eq_true rfl) rfl ?_
    exact E.1 _ _ _ _ _ _ _ dX5_cutNext_47 rfl rfl (Nat.le_of_ble_eq_true rfl) (Nat.le_of_ble_eq_true rfl) (by have c9 : s.left ≤ gmin s.left x := c_32; have e : s.cut x = ((s.set 7 (gmin s.left x)).set 8 0) := (by rw [gSd.cut, if_pos c9]); exact ⟨by rw [e], by rw [e]; exact H.put (gset_self (gset_self H.1)) (fun k hk => by repeat (first | rfl | rw [List.getElem?_set_ne (Ne.symm hk)])) rfl rfl rfl⟩)
  · -- to 35
    refine g_iconst (v := 1) (q := 36) C dX5_cutNext_35 (by decide) rfl ?_
    refine g_goto (q := 40) C dX5_cutNext_36 (by decide) ?_
    refine g_putfield (q := 43) C fX5_51 dX5_cutNext_40 rfl (gset_self H.1) (Nat.le_of_ble_eq_true rfl) (Or.inl rfl) rfl rfl (by intro z h; cases h) ?_
    refine g_aload_n (q := 44) C dX5_cutNext_43 rfl rfl ?_
    refine g_callVi (q := 47) (As := []) C gyX5_pendingKind gvX5_pendingKind t_728 (c_X5_pendingKind_s (s := ((s.set 7 (gmin s.left x)).set 8 1)) (And.left (H.put (gset_self (gset_self H.1)) (fun k hk => by repeat (first | rfl | rw [List.getElem?_set_ne (Ne.symm hk)])) rfl rfl rfl))) dX5_cutNext_44 rfl (gset_self (gset_self H.1)) rfl rfl rfl (Nat.le_of_ble_eq_true rfl) (Nat.le_of_ble_eq_true rfl) (Nat.le_of_ble_eq_true rfl) (Nat.le_of_ble_eq_true rfl) (Nat.le_of_ble_eq_true rfl) rfl ?_
    exact E.1 _ _ _ _ _ _ _ dX5_cutNext_47 rfl rfl (Nat.le_of_ble_eq_true rfl) (Nat.le_of_ble_eq_true rfl) (by have c9 : ¬ s.left ≤ gmin s.left x := c_32; have e : s.cut x = ((s.set 7 (gmin s.left x)).set 8 1) := (by rw [gSd.cut, if_neg c9]); exact ⟨by rw [e], by rw [e]; exact H.put (gset_self (gset_self H.1)) (fun k hk => by repeat (first | rfl | rw [List.getElem?_set_ne (Ne.symm hk)])) rfl rfl rfl⟩)
def gInf (l : List Int32) (j : Nat) : List Int32 := (l.drop 3).take (j - 3)
def gSd.take (s : gSd) (l : List Int32) : gSd := ((s.row 2 ((s.inn ++ gInf l (l.length - 1)).take 60)).set 1 (1 - s.wa))
theorem gtk1 {A : List Int32} {x : Int32} (n : Nat) : ((A.take n) ++ [x]).take n = (A ++ [x]).take n := by
  rcases Nat.lt_or_ge A.length n with h | h
  · rw [List.take_of_length_le (Nat.le_of_lt h)]
  · rw [List.take_append_of_le_length (by rw [List.length_take]; omega), List.take_append_of_le_length h, List.take_take, Nat.min_self]
theorem gInf_s {i l : List Int32} {j : Nat} (h3 : 3 ≤ j) (hj : j < l.length) (hl : l.length < 2 ^ 31) : (((i ++ gInf l j).take 60) ++ [gat l (nI j)]).take 60 = (i ++ gInf l (j + 1)).take 60 := by
  have e : gInf l (j + 1) = gInf l j ++ [gat l (nI j)] := by
    unfold gInf gat
    rw [if_neg (nI_pos (by omega)), nI_clamp (by omega), show j + 1 - 3 = (j - 3) + 1 by omega, List.take_add_one, List.getElem?_drop, show 3 + (j - 3) = j by omega, List.getElem?_eq_getElem hj]
    simp [List.getD, List.getElem?_eq_getElem hj]
  rw [gtk1, e, List.append_assoc]
theorem dX5_takeInf_0 : decode cX5_takeInf 0 = .ok (.iconst 3, 1) := by decide +kernel
theorem dX5_takeInf_1 : decode cX5_takeInf 1 = .ok (.istore_n 2, 1) := by decide +kernel
theorem dX5_takeInf_2 : decode cX5_takeInf 2 = .ok (.iload_n 2, 1) := by decide +kernel
theorem dX5_takeInf_3 : decode cX5_takeInf 3 = .ok (.aload_n 1, 1) := by decide +kernel
theorem dX5_takeInf_4 : decode cX5_takeInf 4 = .ok (.invokevirtual 78, 3) := by decide +kernel
theorem dX5_takeInf_7 : decode cX5_takeInf 7 = .ok (.iconst 1, 1) := by decide +kernel
theorem dX5_takeInf_8 : decode cX5_takeInf 8 = .ok (.isub, 1) := by decide +kernel
theorem dX5_takeInf_9 : decode cX5_takeInf 9 = .ok (.if_icmp .ge 21, 3) := by decide +kernel
theorem dX5_takeInf_12 : decode cX5_takeInf 12 = .ok (.aload_n 0, 1) := by decide +kernel
theorem dX5_takeInf_13 : decode cX5_takeInf 13 = .ok (.getfield 45, 3) := by decide +kernel
theorem dX5_takeInf_16 : decode cX5_takeInf 16 = .ok (.aload_n 1, 1) := by decide +kernel
theorem dX5_takeInf_17 : decode cX5_takeInf 17 = .ok (.iload_n 2, 1) := by decide +kernel
theorem dX5_takeInf_18 : decode cX5_takeInf 18 = .ok (.invokevirtual 94, 3) := by decide +kernel
theorem dX5_takeInf_21 : decode cX5_takeInf 21 = .ok (.invokevirtual 98, 3) := by decide +kernel
theorem dX5_takeInf_24 : decode cX5_takeInf 24 = .ok (.iinc 2 1, 3) := by decide +kernel
theorem dX5_takeInf_27 : decode cX5_takeInf 27 = .ok (.goto (-25), 3) := by decide +kernel
theorem dX5_takeInf_30 : decode cX5_takeInf 30 = .ok (.aload_n 0, 1) := by decide +kernel
theorem dX5_takeInf_31 : decode cX5_takeInf 31 = .ok (.iconst 1, 1) := by decide +kernel
theorem dX5_takeInf_32 : decode cX5_takeInf 32 = .ok (.aload_n 0, 1) := by decide +kernel
theorem dX5_takeInf_33 : decode cX5_takeInf 33 = .ok (.getfield 15, 3) := by decide +kernel
theorem dX5_takeInf_36 : decode cX5_takeInf 36 = .ok (.isub, 1) := by decide +kernel
theorem dX5_takeInf_37 : decode cX5_takeInf 37 = .ok (.putfield 15, 3) := by decide +kernel
theorem dX5_takeInf_40 : decode cX5_takeInf 40 = .ok (.return_, 1) := by decide +kernel
set_option maxRecDepth 100000 in
set_option maxHeartbeats 4000000 in
theorem c_X5_takeInf_s {hp : List gA} {o : Nat} {num : Int32} {s : gSd} {rb ab nb : Nat} {l : List Int32} (H : gSide hp o num s) (HB : gRw hp rb ab nb l) (hb : rb < o ∨ o + 7 ≤ rb) (hab : ab < o ∨ o + 7 ≤ ab) (h4 : 4 ≤ l.length) : gM yX5_takeInf cX5_takeInf 3 (none) 3 103 [.ref o, .ref rb] (hp) (0) (0) (fun v h => v = none ∧ (gSide h o num (s.take l) ∧ gFS hp h o)) := by
  have hlt : l.length < 2 ^ 31 := by have := HB.le; omega
  refine gM_of (ls0 := [some (.ref o), some (.ref rb), none]) (by decide +kernel) (Nat.le_of_ble_eq_true rfl) rfl fun X C E => ?_
  have L : ∀ m j : Nat, j + m = l.length - 1 → 3 ≤ j → ∀ hp1 : List gA, gSide hp1 o num (s.row 2 ((s.inn ++ gInf l j).take 60)) → gFS hp hp1 o → gG X 2 [some (.ref o), some (.ref rb), some (.int (nI j))] [] hp1 0 0 := by
    intro m
    induction m with
    | zero =>
      intro j hj h3 hp1 HS fr
      obtain rfl : j = l.length - 1 := by omega
      have HB1 : gRw hp1 rb ab nb l := HB.kept (fr _ hb) (fr _ hab)
      have e1 : nI l.length - 1 = nI (l.length - 1) := pk_sub (b := 1) (by omega)
      refine g_iload_n (q := 3) C dX5_takeInf_2 rfl rfl ?_
      refine g_aload_n (q := 4) C dX5_takeInf_3 rfl rfl ?_
      refine g_callVi (q := 7) (As := []) C gyX4_size gvX4_size t_687 (c_X4_size (gRw.obj HB1)) dX5_takeInf_4 rfl (gRw.obj HB1) rfl rfl rfl (Nat.le_of_ble_eq_true rfl) (Nat.le_of_ble_eq_true rfl) (Nat.le_of_ble_eq_true rfl) (Nat.le_of_ble_eq_true rfl) (Nat.le_of_ble_eq_true rfl) rfl ?_
      refine g_iconst (v := 1) (q := 8) C dX5_takeInf_7 (by decide) rfl ?_
      refine g_isub (q := 9) C dX5_takeInf_8 rfl ?_
      rw [e1]
      refine g_icmp_ge_t (t := 30) C dX5_takeInf_9 (by decide) (nI_le (Nat.le_refl _) (by omega)) ?_
      refine g_aload_n (q := 31) C dX5_takeInf_30 rfl rfl ?_
      refine g_iconst (v := 1) (q := 32) C dX5_takeInf_31 (by decide) rfl ?_
      refine g_aload_n (q := 33) C dX5_takeInf_32 rfl rfl ?_
      refine g_getfield (q := 36) C fX5_15 dX5_takeInf_33 rfl HS.1 rfl ?_
      refine g_isub (q := 37) C dX5_takeInf_36 rfl ?_
      refine g_putfield (q := 40) C fX5_15 dX5_takeInf_37 rfl HS.1 (Nat.le_of_ble_eq_true rfl) (Or.inl rfl) rfl rfl (by intro z h; cases h) ?_
      exact E.2.1 _ _ _ _ _ dX5_takeInf_40 rfl (Nat.le_of_ble_eq_true rfl) (Nat.le_of_ble_eq_true rfl) ⟨rfl, And.left (HS.put (gset_self HS.1) (fun k hk => by repeat (first | rfl | rw [List.getElem?_set_ne (Ne.symm hk)])) rfl rfl rfl), gFS.trans fr gFS.set⟩
    | succ m ih =>
      intro j hj h3 hp1 HS fr
      have HB1 : gRw hp1 rb ab nb l := HB.kept (fr _ hb) (fr _ hab)
      have e1 : nI l.length - 1 = nI (l.length - 1) := pk_sub (b := 1) (by omega)
      refine g_iload_n (q := 3) C dX5_takeInf_2 rfl rfl ?_
      refine g_aload_n (q := 4) C dX5_takeInf_3 rfl rfl ?_
      refine g_callVi (q := 7) (As := []) C gyX4_size gvX4_size t_687 (c_X4_size (gRw.obj HB1)) dX5_takeInf_4 rfl (gRw.obj HB1) rfl rfl rfl (Nat.le_of_ble_eq_true rfl) (Nat.le_of_ble_eq_true rfl) (Nat.le_of_ble_eq_true rfl) (Nat.le_of_ble_eq_true rfl) (Nat.le_of_ble_eq_true rfl) rfl ?_
      refine g_iconst (v := 1) (q := 8) C dX5_takeInf_7 (by decide) rfl ?_
      refine g_isub (q := 9) C dX5_takeInf_8 rfl ?_
      rw [e1]
      refine g_icmp_ge_f (t := 30) (q := 12) C dX5_takeInf_9 (by decide) rfl (fun h => nI_ge (show j < l.length - 1 by omega) (by omega) h) ?_
      refine g_aload_n (q := 13) C dX5_takeInf_12 rfl rfl ?_
      refine g_getfield (q := 16) C fX5_45 dX5_takeInf_13 rfl HS.1 rfl ?_
      refine g_aload_n (q := 17) C dX5_takeInf_16 rfl rfl ?_
      refine g_iload_n (q := 18) C dX5_takeInf_17 rfl rfl ?_
      refine g_callVi (q := 21) (As := [.int ((nI j))]) C gyX4_at gvX4_at t_688 (c_X4_at_w HB1) dX5_takeInf_18 rfl (gRw.obj HB1) rfl rfl rfl (Nat.le_of_ble_eq_true rfl) (Nat.le_of_ble_eq_true rfl) (Nat.le_of_ble_eq_true rfl) (Nat.le_of_ble_eq_true rfl) (Nat.le_of_ble_eq_true rfl) rfl ?_
      refine g_callVvp (q := 24) (As := [.int _]) C gyX4_add gvX4_add t_689 (c_X4_add_a HS.2.2.2) dX5_takeInf_21 rfl (gRw.obj HS.2.2.2) rfl rfl rfl (Nat.le_of_ble_eq_true rfl) (Nat.le_of_ble_eq_true rfl) (Nat.le_of_ble_eq_true rfl) (Nat.le_of_ble_eq_true rfl) (Nat.le_of_ble_eq_true rfl) rfl (fun h1 z1 => ?_)
      obtain ⟨HR1, fr1⟩ := z1
      have HR1 : gRw h1 (o + 5) (o + 6) 60 (((s.inn ++ gInf l j).take 60 ++ [gat l (nI j)]).take 60) := HR1
      rw [gInf_s h3 (by omega) hlt] at HR1
      refine g_iinc (v := (nI (j + 1))) (q := 27) C dX5_takeInf_24 rfl (nI_1 j) (by simp only [gset]; rfl) rfl ?_
      refine g_goto (q := 2) C dX5_takeInf_27 (by decide) ?_
      exact ih (j + 1) (by omega) (by omega) _ ⟨(((fr1) (o) (by omega) (by omega)).trans HS.1), (HS.2.1.kept ((fr1) (o + 1) (by omega) (by omega)) ((fr1) (o + 2) (by omega) (by omega))), (HS.2.2.1.kept ((fr1) (o + 3) (by omega) (by omega)) ((fr1) (o + 4) (by omega) (by omega))), HR1⟩ (gFS.trans fr (gFS.of fr1 (by omega) (by omega) (by omega) (by omega)))
  have e0 : (s.inn ++ gInf l 3).take 60 = s.inn := by show (s.inn ++ (l.drop 3).take 0).take 60 = s.inn; rw [List.take_zero, List.append_nil, List.take_of_length_le H.2.2.2.le.1]
  refine g_iconst (v := 3) (q := 1) C dX5_takeInf_0 (by decide) rfl ?_
  refine g_istore_n (q := 2) C dX5_takeInf_1 (Nat.le_of_ble_eq_true rfl) (by simp only [gset]; rfl) rfl ?_
  exact L (l.length - 1 - 3) 3 (by omega) (Nat.le_refl _) hp (by rw [e0]; exact H) gFS.rf
  
def gSd.tell (s : gSd) (w : Int32) : Int32 := if w = 0 then s.nx else if w = 1 then s.wa else if w = 2 then s.ro else if w = 3 then nI s.out.length else if w = 4 then s.th else if w = 5 then nI s.inn.length else if w = 6 then s.la else if w = 7 then s.ask else if w = 8 then (if s.pe = -1 then -1 else s.nx) else if w = 9 then s.se else if w = 10 then s.me else -2
theorem dX5_tell_0 : decode cX5_tell 0 = .ok (.iload_n 1, 1) := by decide +kernel
theorem dX5_tell_1 : decode cX5_tell 1 = .ok (.tableswitch 132 0 10 #[59, 64, 69, 74, 82, 87, 95, 100, 105, 122, 127], 59) := by decide +kernel
theorem dX5_tell_60 : decode cX5_tell 60 = .ok (.aload_n 0, 1) := by decide +kernel
theorem dX5_tell_61 : decode cX5_tell 61 = .ok (.getfield 9, 3) := by decide +kernel
theorem dX5_tell_64 : decode cX5_tell 64 = .ok (.ireturn, 1) := by decide +kernel
theorem dX5_tell_65 : decode cX5_tell 65 = .ok (.aload_n 0, 1) := by decide +kernel
theorem dX5_tell_66 : decode cX5_tell 66 = .ok (.getfield 15, 3) := by decide +kernel
theorem dX5_tell_69 : decode cX5_tell 69 = .ok (.ireturn, 1) := by decide +kernel
theorem dX5_tell_70 : decode cX5_tell 70 = .ok (.aload_n 0, 1) := by decide +kernel
theorem dX5_tell_71 : decode cX5_tell 71 = .ok (.getfield 18, 3) := by decide +kernel
theorem dX5_tell_74 : decode cX5_tell 74 = .ok (.ireturn, 1) := by decide +kernel
theorem dX5_tell_75 : decode cX5_tell 75 = .ok (.aload_n 0, 1) := by decide +kernel
theorem dX5_tell_76 : decode cX5_tell 76 = .ok (.getfield 38, 3) := by decide +kernel
theorem dX5_tell_79 : decode cX5_tell 79 = .ok (.invokevirtual 78, 3) := by decide +kernel
theorem dX5_tell_82 : decode cX5_tell 82 = .ok (.ireturn, 1) := by decide +kernel
theorem dX5_tell_83 : decode cX5_tell 83 = .ok (.aload_n 0, 1) := by decide +kernel
theorem dX5_tell_84 : decode cX5_tell 84 = .ok (.getfield 21, 3) := by decide +kernel
theorem dX5_tell_87 : decode cX5_tell 87 = .ok (.ireturn, 1) := by decide +kernel
theorem dX5_tell_88 : decode cX5_tell 88 = .ok (.aload_n 0, 1) := by decide +kernel
theorem dX5_tell_89 : decode cX5_tell 89 = .ok (.getfield 45, 3) := by decide +kernel
theorem dX5_tell_92 : decode cX5_tell 92 = .ok (.invokevirtual 78, 3) := by decide +kernel
theorem dX5_tell_95 : decode cX5_tell 95 = .ok (.ireturn, 1) := by decide +kernel
theorem dX5_tell_96 : decode cX5_tell 96 = .ok (.aload_n 0, 1) := by decide +kernel
theorem dX5_tell_97 : decode cX5_tell 97 = .ok (.getfield 55, 3) := by decide +kernel
theorem dX5_tell_100 : decode cX5_tell 100 = .ok (.ireturn, 1) := by decide +kernel
theorem dX5_tell_101 : decode cX5_tell 101 = .ok (.aload_n 0, 1) := by decide +kernel
theorem dX5_tell_102 : decode cX5_tell 102 = .ok (.getfield 24, 3) := by decide +kernel
theorem dX5_tell_105 : decode cX5_tell 105 = .ok (.ireturn, 1) := by decide +kernel
theorem dX5_tell_106 : decode cX5_tell 106 = .ok (.aload_n 0, 1) := by decide +kernel
theorem dX5_tell_107 : decode cX5_tell 107 = .ok (.getfield 48, 3) := by decide +kernel
theorem dX5_tell_110 : decode cX5_tell 110 = .ok (.iconst (-1), 1) := by decide +kernel
theorem dX5_tell_111 : decode cX5_tell 111 = .ok (.if_icmp .ne 7, 3) := by decide +kernel
theorem dX5_tell_114 : decode cX5_tell 114 = .ok (.iconst (-1), 1) := by decide +kernel
theorem dX5_tell_115 : decode cX5_tell 115 = .ok (.goto 7, 3) := by decide +kernel
theorem dX5_tell_118 : decode cX5_tell 118 = .ok (.aload_n 0, 1) := by decide +kernel
theorem dX5_tell_119 : decode cX5_tell 119 = .ok (.getfield 9, 3) := by decide +kernel
theorem dX5_tell_122 : decode cX5_tell 122 = .ok (.ireturn, 1) := by decide +kernel
theorem dX5_tell_123 : decode cX5_tell 123 = .ok (.aload_n 0, 1) := by decide +kernel
theorem dX5_tell_124 : decode cX5_tell 124 = .ok (.getfield 58, 3) := by decide +kernel
theorem dX5_tell_127 : decode cX5_tell 127 = .ok (.ireturn, 1) := by decide +kernel
theorem dX5_tell_128 : decode cX5_tell 128 = .ok (.aload_n 0, 1) := by decide +kernel
theorem dX5_tell_129 : decode cX5_tell 129 = .ok (.getfield 30, 3) := by decide +kernel
theorem dX5_tell_132 : decode cX5_tell 132 = .ok (.ireturn, 1) := by decide +kernel
theorem dX5_tell_133 : decode cX5_tell 133 = .ok (.bipush (-2), 2) := by decide +kernel
theorem dX5_tell_135 : decode cX5_tell 135 = .ok (.ireturn, 1) := by decide +kernel
set_option maxRecDepth 100000 in
set_option maxHeartbeats 4000000 in
theorem c_X5_tell_s {hp : List gA} {o : Nat} {num : Int32} {s : gSd} {w : Int32} (H : gSide hp o num s) : gM yX5_tell cX5_tell 2 ((some .int)) 1 20 [.ref o, .int w] (hp) (0) (0) (fun v h => v = some (.int (s.tell w)) ∧ h = hp) := by
  refine gM_of (ls0 := [some (.ref o), some (.int w)]) (by decide +kernel) (Nat.le_of_ble_eq_true rfl) rfl fun X C E => ?_
  refine g_iload_n (q := 1) C dX5_tell_0 rfl rfl ?_
  by_cases c_1_0 : w = 0
  · subst c_1_0
    refine g_tableIn (off := 59) (t := 60) C dX5_tell_1 (by decide) (by decide) (by decide) (by decide) ?_
    refine g_aload_n (q := 61) C dX5_tell_60 rfl rfl ?_
    refine g_getfield (q := 64) C fX5_9 dX5_tell_61 rfl H.1 rfl ?_
    exact E.1 _ _ _ _ _ _ _ dX5_tell_64 rfl rfl (Nat.le_of_ble_eq_true rfl) (Nat.le_of_ble_eq_true rfl) ⟨by simp [gSd.tell, *], rfl⟩
  by_cases c_1_1 : w = 1
  · subst c_1_1
    refine g_tableIn (off := 64) (t := 65) C dX5_tell_1 (by decide) (by decide) (by decide) (by decide) ?_
    refine g_aload_n (q := 66) C dX5_tell_65 rfl rfl ?_
    refine g_getfield (q := 69) C fX5_15 dX5_tell_66 rfl H.1 rfl ?_
    exact E.1 _ _ _ _ _ _ _ dX5_tell_69 rfl rfl (Nat.le_of_ble_eq_true rfl) (Nat.le_of_ble_eq_true rfl) ⟨by simp [gSd.tell, *], rfl⟩
  by_cases c_1_2 : w = 2
  · subst c_1_2
    refine g_tableIn (off := 69) (t := 70) C dX5_tell_1 (by decide) (by decide) (by decide) (by decide) ?_
    refine g_aload_n (q := 71) C dX5_tell_70 rfl rfl ?_
    refine g_getfield (q := 74) C fX5_18 dX5_tell_71 rfl H.1 rfl ?_
    exact E.1 _ _ _ _ _ _ _ dX5_tell_74 rfl rfl (Nat.le_of_ble_eq_true rfl) (Nat.le_of_ble_eq_true rfl) ⟨by simp [gSd.tell, *], rfl⟩
  by_cases c_1_3 : w = 3
  · subst c_1_3
    refine g_tableIn (off := 74) (t := 75) C dX5_tell_1 (by decide) (by decide) (by decide) (by decide) ?_
    refine g_aload_n (q := 76) C dX5_tell_75 rfl rfl ?_
    refine g_getfield (q := 79) C fX5_38 dX5_tell_76 rfl H.1 rfl ?_
    refine g_callVi (q := 82) (As := []) C gyX4_size gvX4_size t_687 (c_X4_size (gRw.obj H.2.1)) dX5_tell_79 rfl (gRw.obj H.2.1) rfl rfl rfl (Nat.le_of_ble_eq_true rfl) (Nat.le_of_ble_eq_true rfl) (Nat.le_of_ble_eq_true rfl) (Nat.le_of_ble_eq_true rfl) (Nat.le_of_ble_eq_true rfl) rfl ?_
    exact E.1 _ _ _ _ _ _ _ dX5_tell_82 rfl rfl (Nat.le_of_ble_eq_true rfl) (Nat.le_of_ble_eq_true rfl) ⟨by simp [gSd.tell, *], rfl⟩
  by_cases c_1_4 : w = 4
  · subst c_1_4
    refine g_tableIn (off := 82) (t := 83) C dX5_tell_1 (by decide) (by decide) (by decide) (by decide) ?_
    refine g_aload_n (q := 84) C dX5_tell_83 rfl rfl ?_
    refine g_getfield (q := 87) C fX5_21 dX5_tell_84 rfl H.1 rfl ?_
    exact E.1 _ _ _ _ _ _ _ dX5_tell_87 rfl rfl (Nat.le_of_ble_eq_true rfl) (Nat.le_of_ble_eq_true rfl) ⟨by simp [gSd.tell, *], rfl⟩
  by_cases c_1_5 : w = 5
  · subst c_1_5
    refine g_tableIn (off := 87) (t := 88) C dX5_tell_1 (by decide) (by decide) (by decide) (by decide) ?_
    refine g_aload_n (q := 89) C dX5_tell_88 rfl rfl ?_
    refine g_getfield (q := 92) C fX5_45 dX5_tell_89 rfl H.1 rfl ?_
    refine g_callVi (q := 95) (As := []) C gyX4_size gvX4_size t_687 (c_X4_size (gRw.obj H.2.2.2)) dX5_tell_92 rfl (gRw.obj H.2.2.2) rfl rfl rfl (Nat.le_of_ble_eq_true rfl) (Nat.le_of_ble_eq_true rfl) (Nat.le_of_ble_eq_true rfl) (Nat.le_of_ble_eq_true rfl) (Nat.le_of_ble_eq_true rfl) rfl ?_
    exact E.1 _ _ _ _ _ _ _ dX5_tell_95 rfl rfl (Nat.le_of_ble_eq_true rfl) (Nat.le_of_ble_eq_true rfl) ⟨by simp [gSd.tell, *], rfl⟩
  by_cases c_1_6 : w = 6
  · subst c_1_6
    refine g_tableIn (off := 95) (t := 96) C dX5_tell_1 (by decide) (by decide) (by decide) (by decide) ?_
    refine g_aload_n (q := 97) C dX5_tell_96 rfl rfl ?_
    refine g_getfield (q := 100) C fX5_55 dX5_tell_97 rfl H.1 rfl ?_
    exact E.1 _ _ _ _ _ _ _ dX5_tell_100 rfl rfl (Nat.le_of_ble_eq_true rfl) (Nat.le_of_ble_eq_true rfl) ⟨by simp [gSd.tell, *], rfl⟩
  by_cases c_1_7 : w = 7
  · subst c_1_7
    refine g_tableIn (off := 100) (t := 101) C dX5_tell_1 (by decide) (by decide) (by decide) (by decide) ?_
    refine g_aload_n (q := 102) C dX5_tell_101 rfl rfl ?_
    refine g_getfield (q := 105) C fX5_24 dX5_tell_102 rfl H.1 rfl ?_
    exact E.1 _ _ _ _ _ _ _ dX5_tell_105 rfl rfl (Nat.le_of_ble_eq_true rfl) (Nat.le_of_ble_eq_true rfl) ⟨by simp [gSd.tell, *], rfl⟩
  by_cases c_1_8 : w = 8
  · subst c_1_8
    refine g_tableIn (off := 105) (t := 106) C dX5_tell_1 (by decide) (by decide) (by decide) (by decide) ?_
    refine g_aload_n (q := 107) C dX5_tell_106 rfl rfl ?_
    refine g_getfield (q := 110) C fX5_48 dX5_tell_107 rfl H.1 rfl ?_
    refine g_iconst (v := (-1)) (q := 111) C dX5_tell_110 (by decide) rfl ?_
    refine g_icmp_ne (t := 118) (q := 114) C dX5_tell_111 (by decide) rfl (fun c_111 => ?_) (fun c_111 => ?_)
    · -- to 118
      refine g_aload_n (q := 119) C dX5_tell_118 rfl rfl ?_
      refine g_getfield (q := 122) C fX5_9 dX5_tell_119 rfl H.1 rfl ?_
      exact E.1 _ _ _ _ _ _ _ dX5_tell_122 rfl rfl (Nat.le_of_ble_eq_true rfl) (Nat.le_of_ble_eq_true rfl) ⟨by simp [gSd.tell, *], rfl⟩
    · -- to 114
      refine g_iconst (v := (-1)) (q := 115) C dX5_tell_114 (by decide) rfl ?_
      refine g_goto (q := 122) C dX5_tell_115 (by decide) ?_
      exact E.1 _ _ _ _ _ _ _ dX5_tell_122 rfl rfl (Nat.le_of_ble_eq_true rfl) (Nat.le_of_ble_eq_true rfl) ⟨by simp [gSd.tell, *], rfl⟩
  by_cases c_1_9 : w = 9
  · subst c_1_9
    refine g_tableIn (off := 122) (t := 123) C dX5_tell_1 (by decide) (by decide) (by decide) (by decide) ?_
    refine g_aload_n (q := 124) C dX5_tell_123 rfl rfl ?_
    refine g_getfield (q := 127) C fX5_58 dX5_tell_124 rfl H.1 rfl ?_
    exact E.1 _ _ _ _ _ _ _ dX5_tell_127 rfl rfl (Nat.le_of_ble_eq_true rfl) (Nat.le_of_ble_eq_true rfl) ⟨by simp [gSd.tell, *], rfl⟩
  by_cases c_1_10 : w = 10
  · subst c_1_10
    refine g_tableIn (off := 127) (t := 128) C dX5_tell_1 (by decide) (by decide) (by decide) (by decide) ?_
    refine g_aload_n (q := 129) C dX5_tell_128 rfl rfl ?_
    refine g_getfield (q := 132) C fX5_30 dX5_tell_129 rfl H.1 rfl ?_
    exact E.1 _ _ _ _ _ _ _ dX5_tell_132 rfl rfl (Nat.le_of_ble_eq_true rfl) (Nat.le_of_ble_eq_true rfl) ⟨by simp [gSd.tell, *], rfl⟩
  refine g_tableOut (t := 133) C dX5_tell_1 (gOut11 c_1_0 c_1_1 c_1_2 c_1_3 c_1_4 c_1_5 c_1_6 c_1_7 c_1_8 c_1_9 c_1_10) (by decide) ?_
  refine g_bipush (v := (-2)) (q := 135) C dX5_tell_133 (by decide) rfl ?_
  exact E.1 _ _ _ _ _ _ _ dX5_tell_135 rfl rfl (Nat.le_of_ble_eq_true rfl) (Nat.le_of_ble_eq_true rfl) ⟨by simp [gSd.tell, *], rfl⟩
