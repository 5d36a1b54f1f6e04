/-! the protocol: stages (wip/p1/m_proto.py) -/
def gB0 (K : Int32 × Int32) (L : gLn) : Prop := L.ft = 0 ∧ L.st = 1 ∧ L.td = K.1 ∧ L.tg = K.2 ∧ ∃ t, t < 3 ∧ L.tr = nI t
def gcAsk (s : gSd) : Prop := s.ask = -1 ∨ (s.ask = 1 ∧ ∃ b, 1 ≤ b ∧ b ≤ 254 ∧ s.ai = nI b) ∨ s.ask = 2 ∨ (s.ask = 3 ∧ ∃ b, b < 256 ∧ s.ai = nI b)
def gSiN (L : gLn) (s : Nat) : Prop := (s = 0 ∧ L.si ≤ 0) ∨ (1 ≤ s ∧ s ≤ 4 ∧ L.si = nI s)
def gCm (L : gLn) (k : Int32) (inf : List Int32) : Prop := L.oc = 0 ∧ L.ca = gMb k inf
def gCR (L : gLn) (w : Nat) : Prop := ∃ k, gKR k w ∧ gCm L k []
def gBr (L : gLn) : Prop := L.oc = 1 ∨ L.oc = 2 ∨ L.oc = 3
/-- the card is idle, or its last chunk was taken -/
def gLkc (L : gLn) (n' w t' : Nat) : Prop := (L.cd.pe = -1 ∧ w = n') ∨ (∃ p, gSP L.cd t' p 0 ∧ w = 1 - n')
def gLkr (L : gLn) (n w' t : Nat) : Prop := (L.rd.pe = -1 ∧ w' = n) ∨ (∃ p, gSP L.rd t p 0 ∧ w' = 1 - n)
def gQt (L : gLn) : Prop := L.rd.ask = -1 ∧ L.ta = 0 ∧ L.rd.inn = []
/-- what a side got, as a whole -/
def gGot (M : List Int32) (s : gSd) : Prop := s.got = M ∧ ¬ s.me = 0
theorem gGot.tr {M : List Int32} {s s2 : gSd} (g : gGot M s) (h : s2.got = s.got ∧ s2.me = s.me) : gGot M s2 := ⟨h.1.trans g.1, by rw [h.2]; exact g.2⟩
theorem gpass_me (s : gSd) : s.pass.me = s.me := by
  unfold gSd.pass
  split <;> rfl
/-- message: chunk sent, not taken -/
def gP1n (M : List Int32) (L : gLn) (n w t p mo n' q t' : Nat) : Prop :=
  gSB L.rd n w 32 t ∧ gSP L.rd t p mo ∧ L.rd.out = M ∧ p = min (M.length - t) q ∧ mo = (if M.length - t ≤ q then 0 else 1) ∧ gSB L.cd n' n q t' ∧ L.cd.inn = M.take t ∧ gLkc L n' w t' ∧ gQt L ∧ L.cd.ask = -1 ∧ L.si ≤ 0
/-- message: chunk taken, more to come -/
def gP1g (M : List Int32) (L : gLn) (n w t p n' q t' : Nat) : Prop :=
  gSB L.rd n w 32 t ∧ gSP L.rd t p 1 ∧ L.rd.out = M ∧ 1 ≤ p ∧ t + p < M.length ∧ gSB L.cd n' (1 - n) q t' ∧ L.cd.inn = M.take (t + p) ∧ L.cd.pe = -1 ∧ w = n' ∧ gQt L ∧ L.cd.ask = -1 ∧ L.si ≤ 0
/-- message come, no answer yet -/
def gP2 (M : List Int32) (L : gLn) (n w t w' n' q t' : Nat) : Prop :=
  gSB L.rd n w 32 t ∧ gSB L.cd n' w' q t' ∧ gLkr L n w' t ∧ gGot M L.cd ∧ L.cd.inn = [] ∧ L.cd.pe = -1 ∧ w = n' ∧ gQt L
/-- asked: u the value, k the kind, b its byte -/
def gAk2 (M : List Int32) (L : gLn) (k u : Nat) (inf : List Int32) : Prop :=
  L.si ≤ 0 ∧ ((k = 195 ∧ L.cd.ask = 3 ∧ gKd M = 2 ∧ ∃ j b, 1 ≤ j ∧ j ≤ 3 ∧ L.wl = nI j ∧ b < 256 ∧ L.cd.ai = nI b ∧ inf = [nI b] ∧ u = 142 + 2 * j) ∨
    (k = 193 ∧ L.cd.ask = 1 ∧ gKd M = 3 ∧ u = 144 ∧ ∃ b, 1 ≤ b ∧ b ≤ 254 ∧ L.cd.ai = nI b ∧ inf = [nI b]) ∨ (k = 194 ∧ L.cd.ask = 2 ∧ gKd M = 4 ∧ u = 144 ∧ inf = []))
/-- answer: chunk sent, not taken -/
def gP3n (M : List Int32) (L : gLn) (n w t w' n' q t' p mo : Nat) : Prop :=
  gSB L.rd n w 32 t ∧ gSB L.cd n' w' q t' ∧ gLkr L n w' t ∧ gSP L.cd t' p mo ∧ L.cd.out = gExp M ∧ p = min ((gExp M).length - t') 32 ∧ mo = (if (gExp M).length - t' ≤ 32 then 0 else 1) ∧ w = n' ∧ L.rd.inn = (gExp M).take t' ∧ gGot M L.cd ∧ L.cd.inn = [] ∧ L.rd.ask = -1 ∧ L.ta = 0 ∧ L.cd.ask = -1 ∧ L.si ≤ 0
/-- answer: chunk taken, more to come -/
def gP3g (M : List Int32) (L : gLn) (n w t w' n' q t' p : Nat) : Prop :=
  gSB L.rd n w 32 t ∧ gSB L.cd n' w' q t' ∧ L.rd.pe = -1 ∧ w' = n ∧ gSP L.cd t' p 1 ∧ L.cd.out = gExp M ∧ 1 ≤ p ∧ t' + p < (gExp M).length ∧ w = 1 - n' ∧ L.rd.inn = (gExp M).take (t' + p) ∧ gGot M L.cd ∧ L.cd.inn = [] ∧ L.rd.ask = -1 ∧ L.ta = 0 ∧ L.cd.ask = -1 ∧ L.si ≤ 0
/-- aborted -/
def gPT (M : List Int32) (L : gLn) (n w n' q t' : Nat) : Prop :=
  gSB L.rd n w 32 0 ∧ L.rd.pe = -1 ∧ L.rd.inn = [] ∧ gSB L.cd n' n q t' ∧ L.cd.pe = -1 ∧ w = n' ∧ gGot M L.cd ∧ L.cd.inn = [] ∧ L.rd.ask = -1 ∧ ¬ L.ta = 0 ∧ L.si ≤ 0 ∧ gKd M = 4
/-- resynch -/
def gPD (L : gLn) (s : Nat) : Prop := (∃ n w t, gSB L.rd n w 32 t ∧ (L.rd.pe = -1 ∨ ∃ p mo, gSP L.rd t p mo)) ∧ gSdT L.cd ∧ gcAsk L.cd ∧ L.rd.ask = 0 ∧ gSiN L s
def gPZ (L : gLn) : Prop := ∃ r, gSB L.cd 0 0 r 0 ∧ L.cd.pe = -1 ∧ L.cd.inn = [] ∧ L.cd.ask = -1 ∧ L.si ≤ 0
def gR1 (M : List Int32) (i : Nat) (L : gLn) : Prop :=
  (∃ n w t p mo n' q t', gP1n M L n w t p mo n' q t' ∧ ((gCR L n ∧ 153 + 2 * (M.length - t) ≤ i) ∨ (gBr L ∧ 155 + 2 * (M.length - t) ≤ i))) ∨
  (∃ n w t p n' q t', gP1g M L n w t p n' q t' ∧ ((gCR L (1 - n) ∧ 151 + 2 * (M.length - t) ≤ i) ∨ (gBr L ∧ 153 + 2 * (M.length - t) ≤ i)))
def gR2 (M : List Int32) (i : Nat) (L : gLn) : Prop :=
  ∃ n w t w' n' q t', gP2 M L n w t w' n' q t' ∧ ((∃ k u inf, gAk2 M L k u inf ∧ ((gCm L (nI k) inf ∧ u + 1 ≤ i) ∨ (gBr L ∧ u + 3 ≤ i))) ∨
    (∃ s, 1 ≤ s ∧ s ≤ 4 ∧ L.si = nI s ∧ L.cd.ask = -1 ∧ gKd M = 5 ∧ gBr L ∧ 143 + 2 * s ≤ i))
def gR3 (M : List Int32) (i : Nat) (L : gLn) : Prop :=
  (∃ n w t w' n' q t' p mo, gP3n M L n w t w' n' q t' p mo ∧ ((gCm L (nI (64 * n' + 32 * mo)) (((gExp M).drop t').take p) ∧ 20 + 2 * ((gExp M).length - t') ≤ i) ∨ ((gCR L w' ∨ gBr L) ∧ 22 + 2 * ((gExp M).length - t') ≤ i))) ∨
  (∃ n w t w' n' q t' p, gP3g M L n w t w' n' q t' p ∧ ((gCR L w' ∧ 20 + 2 * ((gExp M).length - t') ≤ i) ∨ (gBr L ∧ 21 + 2 * ((gExp M).length - t') ≤ i)))
def gRT (M : List Int32) (i : Nat) (L : gLn) : Prop :=
  ∃ n w n' q t', gPT M L n w n' q t' ∧ ((L.cd.ask = -1 ∧ ((gCR L n ∧ 13 ≤ i) ∨ (gBr L ∧ 15 ≤ i))) ∨ (L.cd.ask = 2 ∧ ((gCm L 194 [] ∧ 15 ≤ i) ∨ (gBr L ∧ 17 ≤ i))))
def gRD (i : Nat) (L : gLn) : Prop :=
  ∃ s, gPD L s ∧ ((gCm L 224 [] ∧ gPZ L ∧ 1 ≤ i) ∨ ((gBr L ∨ ∃ k inf, gCm L k inf ∧ ¬ k = 224) ∧ 3 + 2 * s ≤ i))
def gRR (M : List Int32) (K : Int32 × Int32) (i : Nat) (L : gLn) : Prop := gB0 K L ∧ (gR1 M i L ∨ gR2 M i L ∨ gR3 M i L ∨ gRT M i L ∨ gRD i L)
def gC1 (M : List Int32) (i : Nat) (L : gLn) : Prop :=
  (∃ n w t p mo n' q t', gP1n M L n w t p mo n' q t' ∧ ((gCm L (nI (64 * n + 32 * mo)) ((M.drop t).take p) ∧ 152 + 2 * (M.length - t) ≤ i) ∨ (gCR L w ∧ 154 + 2 * (M.length - t) ≤ i) ∨ (gBr L ∧ 156 + 2 * (M.length - t) ≤ i))) ∨
  (∃ n w t p n' q t', gP1g M L n w t p n' q t' ∧ ((gCR L w ∧ 152 + 2 * (M.length - t) ≤ i) ∨ (gBr L ∧ 154 + 2 * (M.length - t) ≤ i)))
def gC2 (M : List Int32) (i : Nat) (L : gLn) : Prop :=
  ∃ n w t w' n' q t', gP2 M L n w t w' n' q t' ∧ ((∃ k u inf, gAk2 M L k u inf ∧ ((¬ k = 194 ∧ gCm L (nI (k + 32)) inf ∧ u ≤ i) ∨ (gCR L w ∧ u + 2 ≤ i) ∨ (gBr L ∧ u + 4 ≤ i))) ∨
    (∃ s, 1 ≤ s ∧ s ≤ 4 ∧ L.si = nI s ∧ L.cd.ask = -1 ∧ gKd M = 5 ∧ (gCR L w ∨ gBr L) ∧ 142 + 2 * s ≤ i))
def gC3 (M : List Int32) (i : Nat) (L : gLn) : Prop :=
  (∃ n w t w' n' q t' p mo, gP3n M L n w t w' n' q t' p mo ∧ ((gCR L w ∧ 21 + 2 * ((gExp M).length - t') ≤ i) ∨ (gBr L ∧ 23 + 2 * ((gExp M).length - t') ≤ i))) ∨
  (∃ n w t w' n' q t' p, gP3g M L n w t w' n' q t' p ∧ ((gCR L w ∧ 19 + 2 * ((gExp M).length - t') ≤ i) ∨ (gBr L ∧ 22 + 2 * ((gExp M).length - t') ≤ i)))
def gCT (M : List Int32) (i : Nat) (L : gLn) : Prop :=
  ∃ n w n' q t', gPT M L n w n' q t' ∧ ((L.cd.ask = -1 ∧ ((gCR L w ∧ 14 ≤ i) ∨ (gBr L ∧ 16 ≤ i))) ∨ (L.cd.ask = 2 ∧ ((gCm L 226 [] ∧ 14 ≤ i) ∨ (gCR L w ∧ 16 ≤ i) ∨ (gBr L ∧ 18 ≤ i))))
def gCD (i : Nat) (L : gLn) : Prop :=
  ∃ s, gPD L s ∧ ((gCm L 192 [] ∧ 2 + 2 * s ≤ i) ∨ (gBr L ∧ 4 + 2 * s ≤ i))
def gCC (M : List Int32) (K : Int32 × Int32) (i : Nat) (L : gLn) : Prop := gB0 K L ∧ (gC1 M i L ∨ gC2 M i L ∨ gC3 M i L ∨ gCT M i L ∨ gCD i L)
/-- a message may be started -/
def gRdy (L : gLn) : Prop := L.rd.ask = -1 ∧ L.cd.ask = -1 ∧ L.si ≤ 0 ∧ L.rd.inn = [] ∧ L.cd.inn = [] ∧ L.rd.pe = -1 ∧ ∃ n w t n' q t', gSB L.rd n w 32 t ∧ gSB L.cd n' n q t' ∧ gLkc L n' w t'
def gFin (M : List Int32) (K : Int32 × Int32) (L : gLn) : Prop :=
  (L.st = 2 ∧ L.td = K.1 + 1 ∧ L.tg = K.2 ∧ gGot (gExp M) L.rd ∧ gGot M L.cd ∧ gRdy L) ∨ (L.st = 3 ∧ L.td = K.1 ∧ L.tg = K.2 + 1 ∧ gRdy L ∧ L.rd.nx = 0 ∧ L.rd.wa = 0 ∧ L.cd.nx = 0 ∧ L.cd.wa = 0 ∧ L.rd.out = [] ∧ L.cd.pe = -1) ∨ (L.st = 4 ∧ gSdT L.rd ∧ gSdT L.cd)
/-- what is sent, and what stands behind it, come whole or not -/
def gSo (L3 : gLn) (ro : Int32) (P : Nat → gLn → Prop) (i : Nat) : Prop :=
  ∃ (k q : Nat) (inf : List Int32), L3.bl = gMb (nI k) inf ∧ gWf k inf q ∧ inf.length ≤ 60 ∧ gByt inf ∧ q ≤ 254 ∧ ro = nI q ∧ (∃ j, j < i ∧ P j ((L3.row 1 (gMb (nI k) inf)).set 5 0)) ∧
    ∀ l1 o, (o = 1 ∨ o = 2 ∨ o = 3) → ∃ j, j < i + 6 ∧ P j ((L3.row 1 l1).set 5 o)
def gRO (M : List Int32) (K : Int32 × Int32) (i : Nat) (x : Int32 × gLn) : Prop :=
  (x.1 = -1 ∧ gFin M K x.2) ∨ (¬ x.1 = -1 ∧ gSo (gS3_r x.2 x.1) (gS3_r x.2 x.1).cd.ro (gCC M K) i)
def gCO (M : List Int32) (K : Int32 × Int32) (i : Nat) (x : Int32 × gLn) : Prop :=
  (x.1 = -1 ∧ ∃ j, j < i ∧ gRR M K j (x.2.set 5 3)) ∨ (¬ x.1 = -1 ∧ gSo (gS3_c x.2 x.1) (gS3_c x.2 x.1).rd.ro (gRR M K) i)
