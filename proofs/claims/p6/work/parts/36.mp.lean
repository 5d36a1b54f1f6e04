/-! the reference: what the reader gets (by program: wip/p2/m_mp.py) -/
theorem gTk_put {M : gMd} {x : Int32} : gTk ((M.put 4 422 x).a 4) = gTk (M.a 4) := by
  unfold gTk
  rw [gput_n (by decide), gput_n (by decide)]
  exact gcn_congr fun k _ => gput_n (by omega)
theorem gLg.kept {M M' : gMd} (h12 : M'.f 12 = M.f 12) (h13 : M'.f 13 = M.f 13) (h6 : ∀ q, M'.a 6 q = M.a 6 q) (H : gLg M) : gLg M' := by
  obtain ⟨a, b, c⟩ := H
  exact ⟨by rw [h13]; exact a, by rw [h12]; exact b, fun p hp => by rw [h6, h6]; exact c p hp⟩
theorem gSn.put {M M' : gMd} {sd n l : Nat} {x sh : Int32} {E E' : List (Int32 × List Int32)} (H : gSn M sd x n l E M' E' sh) : gSn (M.put 4 422 0) sd x n l E (M'.put 4 422 0) E' sh := by
  obtain ⟨a1, a2, a3, a4, a5, a6, a7, a8, a9⟩ := H
  refine ⟨a1, fun i q h4 h h12 h13 => by rw [gput_o h4, gput_o h4]; exact a2 i q h4 h h12 h13, fun q h1 h2 h3 h4 => ?_, by rw [gput_n (by decide)]; exact a4, by rw [gTk_put, gTk_put]; exact a5, a6, a7, ?_, ?_⟩
  · by_cases c : q = 422
    · subst c; rw [gput_s, gput_s]
    · rw [gput_n c, gput_n c]; exact a3 q h1 h2 h3 h4
  · rw [gTk_put, gTk_put]; exact a8
  · rcases a9 with ⟨b1, b2, b3, b4, b5, b6⟩ | ⟨b1, b2, b3, b4⟩
    · exact Or.inl ⟨b1, b2, b3, b4, b5, fun i q h4 h12 h13 => by rw [gput_o h4, gput_o h4]; exact b6 i q h4 h12 h13⟩
    · exact Or.inr ⟨b1, b2.kept rfl (fun _ => rfl) (fun _ => rfl) (fun _ => rfl), b3.kept rfl rfl (fun _ => rfl), b4⟩
theorem gDo.put {P : gMd × Option (Int32 × Int32)} {l : Nat} {E E' : List (Int32 × List Int32)} {M' : gMd} (H : gDo 0 P l E M' E') : gDo 0 (P.1.put 4 422 0, P.2) l E (M'.put 4 422 0) E' := by
  obtain ⟨A, p⟩ := P
  cases p with
  | none => obtain ⟨rfl, rfl⟩ := H; exact ⟨rfl, rfl⟩
  | some y => exact gSn.put H
theorem gDo.f34 {sd : Nat} {P : gMd × Option (Int32 × Int32)} {l : Nat} {E E' : List (Int32 × List Int32)} {M' : gMd} (H : gDo sd P l E M' E') : M'.f 34 = P.1.f 34 := by
  obtain ⟨A, p⟩ := P
  cases p with
  | none => obtain ⟨rfl, rfl⟩ := H; rfl
  | some y => exact H.1 34 (by decide) (by decide) (by decide) (by decide) (by decide) (by decide) (by decide) (by decide) (by decide)
theorem gDo.no {sd : Nat} {P : gMd × Option (Int32 × Int32)} {l : Nat} {E E' : List (Int32 × List Int32)} {M' : gMd} (e : P.2 = none) (H : gDo sd P l E M' E') : M' = P.1 ∧ E' = E := by
  obtain ⟨A, p⟩ := P
  cases p with
  | none => exact H
  | some y => exact absurd e (by simp)
def pX8_readerGets (M : gMd) : gMd × Option (Int32 × Int32) := (if ((rX8_tries M 0 0).f 29) = 0 then (if ((rX8_tries M 0 0).a 4 9) < 0 then (if 128 ≤ ((rX8_tries M 0 0).a 13 1) then (if 192 ≤ ((rX8_tries M 0 0).a 13 1) then (if ((pX8_readerAsked (rX8_tries M 0 0))).1.f 34 ≤ 0 then (((pX8_readerAsked (rX8_tries M 0 0))).1.put 4 422 0, ((pX8_readerAsked (rX8_tries M 0 0))).2) else (pX8_triesOn (((pX8_readerAsked (rX8_tries M 0 0))).1))) else (if ((pX8_readerTold (rX8_tries M 0 0))).1.f 34 ≤ 0 then (((pX8_readerTold (rX8_tries M 0 0))).1.put 4 422 0, ((pX8_readerTold (rX8_tries M 0 0))).2) else (pX8_triesOn (((pX8_readerTold (rX8_tries M 0 0))).1)))) else (if (rX8_takes_0 (rX8_tries M 0 0)).1 = 0 then (if ((rX8_tries ((rX8_takes_0 (rX8_tries M 0 0)).2) 2 2).f 34) ≤ 0 then (((rX8_tries ((rX8_takes_0 (rX8_tries M 0 0)).2) 2 2).put 4 422 0), none) else (pX8_triesOn (rX8_tries ((rX8_takes_0 (rX8_tries M 0 0)).2) 2 2))) else (if (rX8_hasMoreCome ((rX8_takes_0 (rX8_tries M 0 0)).2)) = 0 then (if ((rX8_done (rX8_messageCame_0 ((rX8_takes_0 (rX8_tries M 0 0)).2))).f 34) ≤ 0 then (((rX8_done (rX8_messageCame_0 ((rX8_takes_0 (rX8_tries M 0 0)).2))).put 4 422 0), none) else (pX8_triesOn (rX8_done (rX8_messageCame_0 ((rX8_takes_0 (rX8_tries M 0 0)).2))))) else (if ((pX8_sendsR_0 ((rX8_takes_0 (rX8_tries M 0 0)).2) 0)).1.f 34 ≤ 0 then (((pX8_sendsR_0 ((rX8_takes_0 (rX8_tries M 0 0)).2) 0)).1.put 4 422 0, ((pX8_sendsR_0 ((rX8_takes_0 (rX8_tries M 0 0)).2) 0)).2) else (pX8_triesOn (((pX8_sendsR_0 ((rX8_takes_0 (rX8_tries M 0 0)).2) 0)).1)))))) else (if (rX8_isResponse_0 (rX8_tries M 0 0)) = 0 then (if ((rX8_tries (rX8_tries M 0 0) 1 0).f 34) ≤ 0 then (((rX8_tries (rX8_tries M 0 0) 1 0).put 4 422 0), none) else (pX8_triesOn (rX8_tries (rX8_tries M 0 0) 1 0))) else (if ((rX8_readerAnswered (rX8_tries M 0 0)).f 34) ≤ 0 then (((rX8_readerAnswered (rX8_tries M 0 0)).put 4 422 0), none) else (pX8_triesOn (rX8_readerAnswered (rX8_tries M 0 0)))))) else (if ((rX8_tries M 0 0).a 4 9) < 0 then (if ((rX8_tries (rX8_tries M 0 0) 2 (if ((rX8_tries M 0 0).f 29) = 1 then 1 else 2 : Int32)).f 34) ≤ 0 then (((rX8_tries (rX8_tries M 0 0) 2 (if ((rX8_tries M 0 0).f 29) = 1 then 1 else 2 : Int32)).put 4 422 0), none) else (pX8_triesOn (rX8_tries (rX8_tries M 0 0) 2 (if ((rX8_tries M 0 0).f 29) = 1 then 1 else 2 : Int32)))) else (if ((rX8_tries (rX8_tries M 0 0) 1 0).f 34) ≤ 0 then (((rX8_tries (rX8_tries M 0 0) 1 0).put 4 422 0), none) else (pX8_triesOn (rX8_tries (rX8_tries M 0 0) 1 0)))))
def oX8_readerGets (M : gMd) (l : Nat) (E : List (Int32 × List Int32)) : Prop := (if ((rX8_tries M 0 0).f 29) = 0 then (if ((rX8_tries M 0 0).a 4 9) < 0 then (if 128 ≤ ((rX8_tries M 0 0).a 13 1) then (if 192 ≤ ((rX8_tries M 0 0).a 13 1) then (oX8_readerAsked (rX8_tries M 0 0) l E ∧ (if ((pX8_readerAsked (rX8_tries M 0 0))).1.f 34 ≤ 0 then True else (((pX8_readerAsked (rX8_tries M 0 0))).2 = none ∧ oX8_triesOn (((pX8_readerAsked (rX8_tries M 0 0))).1) l E))) else (oX8_readerTold (rX8_tries M 0 0) l E ∧ (if ((pX8_readerTold (rX8_tries M 0 0))).1.f 34 ≤ 0 then True else (((pX8_readerTold (rX8_tries M 0 0))).2 = none ∧ oX8_triesOn (((pX8_readerTold (rX8_tries M 0 0))).1) l E)))) else (gIr ((rX8_isThrough_0 (rX8_tries M 0 0)).a 4 8) 60 ∧ (gIr ((rX8_isThrough_0 (rX8_tries M 0 0)).a 13 2) 60 ∧ (if (rX8_takes_0 (rX8_tries M 0 0)).1 = 0 then (if ((rX8_tries ((rX8_takes_0 (rX8_tries M 0 0)).2) 2 2).f 34) ≤ 0 then True else oX8_triesOn (rX8_tries ((rX8_takes_0 (rX8_tries M 0 0)).2) 2 2) l E) else (if (rX8_hasMoreCome ((rX8_takes_0 (rX8_tries M 0 0)).2)) = 0 then (gIr (((rX8_takes_0 (rX8_tries M 0 0)).2).a 4 8) 60 ∧ (if ((rX8_done (rX8_messageCame_0 ((rX8_takes_0 (rX8_tries M 0 0)).2))).f 34) ≤ 0 then True else oX8_triesOn (rX8_done (rX8_messageCame_0 ((rX8_takes_0 (rX8_tries M 0 0)).2))) l E)) else (oX8_sendsR_0 ((rX8_takes_0 (rX8_tries M 0 0)).2) 0 l E ∧ (if ((pX8_sendsR_0 ((rX8_takes_0 (rX8_tries M 0 0)).2) 0)).1.f 34 ≤ 0 then True else (((pX8_sendsR_0 ((rX8_takes_0 (rX8_tries M 0 0)).2) 0)).2 = none ∧ oX8_triesOn (((pX8_sendsR_0 ((rX8_takes_0 (rX8_tries M 0 0)).2) 0)).1) l E)))))))) else (if (rX8_isResponse_0 (rX8_tries M 0 0)) = 0 then (if ((rX8_tries (rX8_tries M 0 0) 1 0).f 34) ≤ 0 then True else oX8_triesOn (rX8_tries (rX8_tries M 0 0) 1 0) l E) else (if ((rX8_readerAnswered (rX8_tries M 0 0)).f 34) ≤ 0 then True else oX8_triesOn (rX8_readerAnswered (rX8_tries M 0 0)) l E))) else (if ((rX8_tries M 0 0).a 4 9) < 0 then (if ((rX8_tries (rX8_tries M 0 0) 2 (if ((rX8_tries M 0 0).f 29) = 1 then 1 else 2 : Int32)).f 34) ≤ 0 then True else oX8_triesOn (rX8_tries (rX8_tries M 0 0) 2 (if ((rX8_tries M 0 0).f 29) = 1 then 1 else 2 : Int32)) l E) else (if ((rX8_tries (rX8_tries M 0 0) 1 0).f 34) ≤ 0 then True else oX8_triesOn (rX8_tries (rX8_tries M 0 0) 1 0) l E)))
theorem dX8_readerGets_0 : decode cX8_readerGets 0 = .ok (.iconst 0, 1) := by decide +kernel
theorem dX8_readerGets_1 : decode cX8_readerGets 1 = .ok (.istore_n 1, 1) := by decide +kernel
theorem dX8_readerGets_2 : decode cX8_readerGets 2 = .ok (.aload_n 0, 1) := by decide +kernel
theorem dX8_readerGets_3 : decode cX8_readerGets 3 = .ok (.iconst 0, 1) := by decide +kernel
theorem dX8_readerGets_4 : decode cX8_readerGets 4 = .ok (.iconst 0, 1) := by decide +kernel
theorem dX8_readerGets_5 : decode cX8_readerGets 5 = .ok (.invokevirtual 225, 3) := by decide +kernel
theorem dX8_readerGets_8 : decode cX8_readerGets 8 = .ok (.aload_n 0, 1) := by decide +kernel
theorem dX8_readerGets_9 : decode cX8_readerGets 9 = .ok (.getfield 176, 3) := by decide +kernel
theorem dX8_readerGets_12 : decode cX8_readerGets 12 = .ok (.ifCond .eq 45, 3) := by decide +kernel
theorem dX8_readerGets_15 : decode cX8_readerGets 15 = .ok (.aload_n 0, 1) := by decide +kernel
theorem dX8_readerGets_16 : decode cX8_readerGets 16 = .ok (.getfield 22, 3) := by decide +kernel
theorem dX8_readerGets_19 : decode cX8_readerGets 19 = .ok (.iload_n 1, 1) := by decide +kernel
theorem dX8_readerGets_20 : decode cX8_readerGets 20 = .ok (.bipush 9, 2) := by decide +kernel
theorem dX8_readerGets_22 : decode cX8_readerGets 22 = .ok (.iadd, 1) := by decide +kernel
theorem dX8_readerGets_23 : decode cX8_readerGets 23 = .ok (.iaload, 1) := by decide +kernel
theorem dX8_readerGets_24 : decode cX8_readerGets 24 = .ok (.ifCond .lt 12, 3) := by decide +kernel
theorem dX8_readerGets_27 : decode cX8_readerGets 27 = .ok (.aload_n 0, 1) := by decide +kernel
theorem dX8_readerGets_28 : decode cX8_readerGets 28 = .ok (.iconst 1, 1) := by decide +kernel
theorem dX8_readerGets_29 : decode cX8_readerGets 29 = .ok (.iconst 0, 1) := by decide +kernel
theorem dX8_readerGets_30 : decode cX8_readerGets 30 = .ok (.invokevirtual 225, 3) := by decide +kernel
theorem dX8_readerGets_33 : decode cX8_readerGets 33 = .ok (.goto 140, 3) := by decide +kernel
theorem dX8_readerGets_36 : decode cX8_readerGets 36 = .ok (.aload_n 0, 1) := by decide +kernel
theorem dX8_readerGets_37 : decode cX8_readerGets 37 = .ok (.iconst 2, 1) := by decide +kernel
theorem dX8_readerGets_38 : decode cX8_readerGets 38 = .ok (.aload_n 0, 1) := by decide +kernel
theorem dX8_readerGets_39 : decode cX8_readerGets 39 = .ok (.getfield 176, 3) := by decide +kernel
theorem dX8_readerGets_42 : decode cX8_readerGets 42 = .ok (.iconst 1, 1) := by decide +kernel
theorem dX8_readerGets_43 : decode cX8_readerGets 43 = .ok (.if_icmp .ne 7, 3) := by decide +kernel
theorem dX8_readerGets_46 : decode cX8_readerGets 46 = .ok (.iconst 1, 1) := by decide +kernel
theorem dX8_readerGets_47 : decode cX8_readerGets 47 = .ok (.goto 4, 3) := by decide +kernel
theorem dX8_readerGets_50 : decode cX8_readerGets 50 = .ok (.iconst 2, 1) := by decide +kernel
theorem dX8_readerGets_51 : decode cX8_readerGets 51 = .ok (.invokevirtual 225, 3) := by decide +kernel
theorem dX8_readerGets_54 : decode cX8_readerGets 54 = .ok (.goto 119, 3) := by decide +kernel
theorem dX8_readerGets_57 : decode cX8_readerGets 57 = .ok (.aload_n 0, 1) := by decide +kernel
theorem dX8_readerGets_58 : decode cX8_readerGets 58 = .ok (.getfield 22, 3) := by decide +kernel
theorem dX8_readerGets_61 : decode cX8_readerGets 61 = .ok (.iload_n 1, 1) := by decide +kernel
theorem dX8_readerGets_62 : decode cX8_readerGets 62 = .ok (.bipush 9, 2) := by decide +kernel
theorem dX8_readerGets_64 : decode cX8_readerGets 64 = .ok (.iadd, 1) := by decide +kernel
theorem dX8_readerGets_65 : decode cX8_readerGets 65 = .ok (.iaload, 1) := by decide +kernel
theorem dX8_readerGets_66 : decode cX8_readerGets 66 = .ok (.ifCond .lt 27, 3) := by decide +kernel
theorem dX8_readerGets_69 : decode cX8_readerGets 69 = .ok (.aload_n 0, 1) := by decide +kernel
theorem dX8_readerGets_70 : decode cX8_readerGets 70 = .ok (.iconst 0, 1) := by decide +kernel
theorem dX8_readerGets_71 : decode cX8_readerGets 71 = .ok (.invokevirtual 228, 3) := by decide +kernel
theorem dX8_readerGets_74 : decode cX8_readerGets 74 = .ok (.ifCond .eq 10, 3) := by decide +kernel
theorem dX8_readerGets_77 : decode cX8_readerGets 77 = .ok (.aload_n 0, 1) := by decide +kernel
theorem dX8_readerGets_78 : decode cX8_readerGets 78 = .ok (.invokevirtual 231, 3) := by decide +kernel
theorem dX8_readerGets_81 : decode cX8_readerGets 81 = .ok (.goto 92, 3) := by decide +kernel
theorem dX8_readerGets_84 : decode cX8_readerGets 84 = .ok (.aload_n 0, 1) := by decide +kernel
theorem dX8_readerGets_85 : decode cX8_readerGets 85 = .ok (.iconst 1, 1) := by decide +kernel
theorem dX8_readerGets_86 : decode cX8_readerGets 86 = .ok (.iconst 0, 1) := by decide +kernel
theorem dX8_readerGets_87 : decode cX8_readerGets 87 = .ok (.invokevirtual 225, 3) := by decide +kernel
theorem dX8_readerGets_90 : decode cX8_readerGets 90 = .ok (.goto 83, 3) := by decide +kernel
theorem dX8_readerGets_93 : decode cX8_readerGets 93 = .ok (.aload_n 0, 1) := by decide +kernel
theorem dX8_readerGets_94 : decode cX8_readerGets 94 = .ok (.getfield 54, 3) := by decide +kernel
theorem dX8_readerGets_97 : decode cX8_readerGets 97 = .ok (.iconst 1, 1) := by decide +kernel
theorem dX8_readerGets_98 : decode cX8_readerGets 98 = .ok (.iaload, 1) := by decide +kernel
theorem dX8_readerGets_99 : decode cX8_readerGets 99 = .ok (.sipush 128, 3) := by decide +kernel
theorem dX8_readerGets_102 : decode cX8_readerGets 102 = .ok (.if_icmp .ge 48, 3) := by decide +kernel
theorem dX8_readerGets_105 : decode cX8_readerGets 105 = .ok (.aload_n 0, 1) := by decide +kernel
theorem dX8_readerGets_106 : decode cX8_readerGets 106 = .ok (.iconst 0, 1) := by decide +kernel
theorem dX8_readerGets_107 : decode cX8_readerGets 107 = .ok (.invokevirtual 234, 3) := by decide +kernel
theorem dX8_readerGets_110 : decode cX8_readerGets 110 = .ok (.ifCond .ne 12, 3) := by decide +kernel
theorem dX8_readerGets_113 : decode cX8_readerGets 113 = .ok (.aload_n 0, 1) := by decide +kernel
theorem dX8_readerGets_114 : decode cX8_readerGets 114 = .ok (.iconst 2, 1) := by decide +kernel
theorem dX8_readerGets_115 : decode cX8_readerGets 115 = .ok (.iconst 2, 1) := by decide +kernel
theorem dX8_readerGets_116 : decode cX8_readerGets 116 = .ok (.invokevirtual 225, 3) := by decide +kernel
theorem dX8_readerGets_119 : decode cX8_readerGets 119 = .ok (.goto 54, 3) := by decide +kernel
theorem dX8_readerGets_122 : decode cX8_readerGets 122 = .ok (.aload_n 0, 1) := by decide +kernel
theorem dX8_readerGets_123 : decode cX8_readerGets 123 = .ok (.invokevirtual 237, 3) := by decide +kernel
theorem dX8_readerGets_126 : decode cX8_readerGets 126 = .ok (.ifCond .eq 12, 3) := by decide +kernel
theorem dX8_readerGets_129 : decode cX8_readerGets 129 = .ok (.aload_n 0, 1) := by decide +kernel
theorem dX8_readerGets_130 : decode cX8_readerGets 130 = .ok (.iconst 0, 1) := by decide +kernel
theorem dX8_readerGets_131 : decode cX8_readerGets 131 = .ok (.iconst 0, 1) := by decide +kernel
theorem dX8_readerGets_132 : decode cX8_readerGets 132 = .ok (.invokevirtual 216, 3) := by decide +kernel
theorem dX8_readerGets_135 : decode cX8_readerGets 135 = .ok (.goto 38, 3) := by decide +kernel
theorem dX8_readerGets_138 : decode cX8_readerGets 138 = .ok (.aload_n 0, 1) := by decide +kernel
theorem dX8_readerGets_139 : decode cX8_readerGets 139 = .ok (.iconst 0, 1) := by decide +kernel
theorem dX8_readerGets_140 : decode cX8_readerGets 140 = .ok (.invokevirtual 240, 3) := by decide +kernel
theorem dX8_readerGets_143 : decode cX8_readerGets 143 = .ok (.aload_n 0, 1) := by decide +kernel
theorem dX8_readerGets_144 : decode cX8_readerGets 144 = .ok (.invokevirtual 243, 3) := by decide +kernel
theorem dX8_readerGets_147 : decode cX8_readerGets 147 = .ok (.goto 26, 3) := by decide +kernel
theorem dX8_readerGets_150 : decode cX8_readerGets 150 = .ok (.aload_n 0, 1) := by decide +kernel
theorem dX8_readerGets_151 : decode cX8_readerGets 151 = .ok (.getfield 54, 3) := by decide +kernel
theorem dX8_readerGets_154 : decode cX8_readerGets 154 = .ok (.iconst 1, 1) := by decide +kernel
theorem dX8_readerGets_155 : decode cX8_readerGets 155 = .ok (.iaload, 1) := by decide +kernel
theorem dX8_readerGets_156 : decode cX8_readerGets 156 = .ok (.sipush 192, 3) := by decide +kernel
theorem dX8_readerGets_159 : decode cX8_readerGets 159 = .ok (.if_icmp .ge 10, 3) := by decide +kernel
theorem dX8_readerGets_162 : decode cX8_readerGets 162 = .ok (.aload_n 0, 1) := by decide +kernel
theorem dX8_readerGets_163 : decode cX8_readerGets 163 = .ok (.invokevirtual 246, 3) := by decide +kernel
theorem dX8_readerGets_166 : decode cX8_readerGets 166 = .ok (.goto 7, 3) := by decide +kernel
theorem dX8_readerGets_169 : decode cX8_readerGets 169 = .ok (.aload_n 0, 1) := by decide +kernel
theorem dX8_readerGets_170 : decode cX8_readerGets 170 = .ok (.invokevirtual 249, 3) := by decide +kernel
theorem dX8_readerGets_173 : decode cX8_readerGets 173 = .ok (.aload_n 0, 1) := by decide +kernel
theorem dX8_readerGets_174 : decode cX8_readerGets 174 = .ok (.getfield 219, 3) := by decide +kernel
theorem dX8_readerGets_177 : decode cX8_readerGets 177 = .ok (.ifCond .le 10, 3) := by decide +kernel
theorem dX8_readerGets_180 : decode cX8_readerGets 180 = .ok (.aload_n 0, 1) := by decide +kernel
theorem dX8_readerGets_181 : decode cX8_readerGets 181 = .ok (.invokevirtual 252, 3) := by decide +kernel
theorem dX8_readerGets_184 : decode cX8_readerGets 184 = .ok (.goto 12, 3) := by decide +kernel
theorem dX8_readerGets_187 : decode cX8_readerGets 187 = .ok (.aload_n 0, 1) := by decide +kernel
theorem dX8_readerGets_188 : decode cX8_readerGets 188 = .ok (.getfield 22, 3) := by decide +kernel
theorem dX8_readerGets_191 : decode cX8_readerGets 191 = .ok (.sipush 422, 3) := by decide +kernel
theorem dX8_readerGets_194 : decode cX8_readerGets 194 = .ok (.iconst 0, 1) := by decide +kernel
theorem dX8_readerGets_195 : decode cX8_readerGets 195 = .ok (.iastore, 1) := by decide +kernel
theorem dX8_readerGets_196 : decode cX8_readerGets 196 = .ok (.return_, 1) := by decide +kernel
set_option maxRecDepth 100000 in
set_option maxHeartbeats 4000000 in
theorem c_X8_readerGets_p {hp : List gA} {M : gMd} {l : Nat} {E : List (Int32 × List Int32)}  (HM : gMod hp M) (ok : oX8_readerGets M l E)  : gM yX8_readerGets cX8_readerGets 2 (none) 8 185 [.ref 122] (hp) (0) (0) (fun v h => v = none ∧ ∃ M' E', gMod h M' ∧ gFM hp h ∧ gDo 0 (pX8_readerGets M) l E M' E') := by
  refine gM_of (ls0 := [some (.ref 122), none]) (by decide +kernel) (Nat.le_of_ble_eq_true rfl) rfl fun X C E9 => ?_
  obtain ⟨P, ep⟩ : ∃ P, P = pX8_readerGets M := ⟨_, rfl⟩
  rw [← ep] at E9
  unfold pX8_readerGets at ep
  unfold oX8_readerGets at ok
  refine g_iconst (v := 0) (q := 1) C dX8_readerGets_0 (by decide) rfl ?_
  refine g_istore_n (q := 2) C dX8_readerGets_1 (Nat.le_of_ble_eq_true rfl) (by simp only [gset]; rfl) rfl ?_
  refine g_aload_n (q := 3) C dX8_readerGets_2 rfl rfl ?_
  refine g_iconst (v := 0) (q := 4) C dX8_readerGets_3 (by decide) rfl ?_
  refine g_iconst (v := 0) (q := 5) C dX8_readerGets_4 (by decide) rfl ?_
  refine g_callVvp (q := 8) (As := [.int 0, .int 0]) C gyX8_tries gvX8_tries t_1356 (c_X8_tries_m HM) dX8_readerGets_5 rfl HM.1 rfl rfl rfl (Nat.le_of_ble_eq_true rfl) (Nat.le_of_ble_eq_true rfl) (Nat.le_of_ble_eq_true rfl) (Nat.le_of_ble_eq_true rfl) (Nat.le_of_ble_eq_true rfl) rfl (fun h1 z1 => ?_)
  obtain ⟨HL1, fr1⟩ := z1
  refine g_aload_n (q := 9) C dX8_readerGets_8 rfl rfl ?_
  refine g_getfield (v := .int (((rX8_tries M 0 0).f 29))) (q := 12) C fX8_176 dX8_readerGets_9 rfl HL1.1 rfl ?_
  refine g_if_eq (t := 57) (q := 15) C dX8_readerGets_12 (by decide) rfl (fun c_12 => ?_) (fun c_12 => ?_)
  ·
    rw [if_pos c_12] at ok ep
    refine g_aload_n (q := 58) C dX8_readerGets_57 rfl rfl ?_
    refine g_getfield (v := .ref 127) (q := 61) C fX8_22 dX8_readerGets_58 rfl HL1.1 rfl ?_
    refine g_iload_n (q := 62) C dX8_readerGets_61 rfl rfl ?_
    refine g_bipush (v := 9) (q := 64) C dX8_readerGets_62 (by decide) rfl ?_
    refine g_iadd (q := 65) C dX8_readerGets_64 rfl ?_
    refine g_ialoadN (x := ((rX8_tries M 0 0).a 4 9)) (j := 9) (q := 66) C dX8_readerGets_65 rfl (HL1.ar (i := 4) (n := 772) (by decide) rfl) (pk_in 9 772 (by decide)) (pk_cl 9) rfl ?_
    refine g_if_lt (t := 93) (q := 69) C dX8_readerGets_66 (by decide) rfl (fun c_66 => ?_) (fun c_66 => ?_)
    ·
      rw [if_pos c_66] at ok ep
      refine g_aload_n (q := 94) C dX8_readerGets_93 rfl rfl ?_
      refine g_getfield (v := .ref 136) (q := 97) C fX8_54 dX8_readerGets_94 rfl HL1.1 rfl ?_
      refine g_iconst (v := 1) (q := 98) C dX8_readerGets_97 (by decide) rfl ?_
      refine g_ialoadN (x := ((rX8_tries M 0 0).a 13 1)) (j := 1) (q := 99) C dX8_readerGets_98 rfl (HL1.ar (i := 13) (n := 260) (by decide) rfl) (pk_in 1 260 (by decide)) (pk_cl 1) rfl ?_
      refine g_sipush (v := 128) (q := 102) C dX8_readerGets_99 (by decide) rfl ?_
      refine g_icmp_ge (t := 150) (q := 105) C dX8_readerGets_102 (by decide) rfl (fun c_102 => ?_) (fun c_102 => ?_)
      ·
        rw [if_pos c_102] at ok ep
        refine g_aload_n (q := 151) C dX8_readerGets_150 rfl rfl ?_
        refine g_getfield (v := .ref 136) (q := 154) C fX8_54 dX8_readerGets_151 rfl HL1.1 rfl ?_
        refine g_iconst (v := 1) (q := 155) C dX8_readerGets_154 (by decide) rfl ?_
        refine g_ialoadN (x := ((rX8_tries M 0 0).a 13 1)) (j := 1) (q := 156) C dX8_readerGets_155 rfl (HL1.ar (i := 13) (n := 260) (by decide) rfl) (pk_in 1 260 (by decide)) (pk_cl 1) rfl ?_
        refine g_sipush (v := 192) (q := 159) C dX8_readerGets_156 (by decide) rfl ?_
        refine g_icmp_ge (t := 169) (q := 162) C dX8_readerGets_159 (by decide) rfl (fun c_159 => ?_) (fun c_159 => ?_)
        ·
          rw [if_pos c_159] at ok ep
          refine g_aload_n (q := 170) C dX8_readerGets_169 rfl rfl ?_
          obtain ⟨ok, okR⟩ := ok
          refine g_callVvp (q := 173) (As := []) C gyX8_readerAsked gvX8_readerAsked t_1412 (c_X8_readerAsked_p HL1 ok) dX8_readerGets_170 rfl HL1.1 rfl rfl rfl (Nat.le_of_ble_eq_true rfl) (Nat.le_of_ble_eq_true rfl) (Nat.le_of_ble_eq_true rfl) (Nat.le_of_ble_eq_true rfl) (Nat.le_of_ble_eq_true rfl) rfl (fun h2 z2 => ?_)
          obtain ⟨M', E', HM', frs, dd⟩ := z2
          have t34 := dd.f34
          clear ok
          have ok := okR
          have frA := frs
          by_cases c : ((pX8_readerAsked (rX8_tries M 0 0))).1.f 34 ≤ 0
          ·
            rw [if_pos c] at ok ep
            refine g_aload_n (q := 174) C dX8_readerGets_173 rfl rfl ?_
            refine g_getfield (v := .int (((M').f 34))) (q := 177) C fX8_219 dX8_readerGets_174 rfl HM'.1 rfl ?_
            refine g_if_le_t (t := 187) C dX8_readerGets_177 (by decide) (by rw [t34]; exact c) ?_
            refine g_aload_n (q := 188) C dX8_readerGets_187 rfl rfl ?_
            refine g_getfield (v := .ref 127) (q := 191) C fX8_22 dX8_readerGets_188 rfl HM'.1 rfl ?_
            refine g_sipush (v := 422) (q := 194) C dX8_readerGets_191 (by decide) rfl ?_
            refine g_iconst (v := 0) (q := 195) C dX8_readerGets_194 (by decide) rfl ?_
            refine g_iastoreN (j := 422) (q := 196) C dX8_readerGets_195 rfl (HM'.ar (i := 4) (n := 772) (by decide) rfl) (pk_in 422 772 (by decide)) (pk_cl 422) ?_
            refine gMsto (i := 4) (j := 422) (x := 0) HM' (by decide) rfl rfl fun h3 HL3 fr3 => ?_
            exact E9.2.1 _ _ _ _ _ dX8_readerGets_196 rfl (Nat.le_of_ble_eq_true rfl) (Nat.le_of_ble_eq_true rfl) ⟨rfl, _, _, HL3, (gFM.trans (gFM.trans fr1 frA) fr3), by rw [ep]; exact gDo.put dd⟩
          ·
            rw [if_neg c] at ok ep
            obtain ⟨e2, ok⟩ := ok
            obtain ⟨rfl, rfl⟩ := dd.no e2
            refine g_aload_n (q := 174) C dX8_readerGets_173 rfl rfl ?_
            refine g_getfield (v := .int (((((pX8_readerAsked (rX8_tries M 0 0))).1).f 34))) (q := 177) C fX8_219 dX8_readerGets_174 rfl HM'.1 rfl ?_
            refine g_if_le_f (t := 187) (q := 180) C dX8_readerGets_177 (by decide) rfl c ?_
            refine g_aload_n (q := 181) C dX8_readerGets_180 rfl rfl ?_
            refine g_callVvp (q := 184) (As := []) C gyX8_triesOn gvX8_triesOn t_1420 (c_X8_triesOn_p HM' ok) dX8_readerGets_181 rfl HM'.1 rfl rfl rfl (Nat.le_of_ble_eq_true rfl) (Nat.le_of_ble_eq_true rfl) (Nat.le_of_ble_eq_true rfl) (Nat.le_of_ble_eq_true rfl) (Nat.le_of_ble_eq_true rfl) rfl (fun h4 z4 => ?_)
            obtain ⟨M', E', HM', frs, dd⟩ := z4
            refine g_goto (q := 196) C dX8_readerGets_184 (by decide) ?_
            exact E9.2.1 _ _ _ _ _ dX8_readerGets_196 rfl (Nat.le_of_ble_eq_true rfl) (Nat.le_of_ble_eq_true rfl) ⟨rfl, _, _, HM', (gFM.trans (gFM.trans fr1 frA) frs), by rw [ep]; exact dd⟩
          
        ·
          rw [if_neg c_159] at ok ep
          refine g_aload_n (q := 163) C dX8_readerGets_162 rfl rfl ?_
          obtain ⟨ok, okR⟩ := ok
          refine g_callVvp (q := 166) (As := []) C gyX8_readerTold gvX8_readerTold t_1400 (c_X8_readerTold_p HL1 ok) dX8_readerGets_163 rfl HL1.1 rfl rfl rfl (Nat.le_of_ble_eq_true rfl) (Nat.le_of_ble_eq_true rfl) (Nat.le_of_ble_eq_true rfl) (Nat.le_of_ble_eq_true rfl) (Nat.le_of_ble_eq_true rfl) rfl (fun h5 z5 => ?_)
          obtain ⟨M', E', HM', frs, dd⟩ := z5
          refine g_goto (q := 173) C dX8_readerGets_166 (by decide) ?_
          have t34 := dd.f34
          clear ok
          have ok := okR
          have frA := frs
          by_cases c : ((pX8_readerTold (rX8_tries M 0 0))).1.f 34 ≤ 0
          ·
            rw [if_pos c] at ok ep
            refine g_aload_n (q := 174) C dX8_readerGets_173 rfl rfl ?_
            refine g_getfield (v := .int (((M').f 34))) (q := 177) C fX8_219 dX8_readerGets_174 rfl HM'.1 rfl ?_
            refine g_if_le_t (t := 187) C dX8_readerGets_177 (by decide) (by rw [t34]; exact c) ?_
            refine g_aload_n (q := 188) C dX8_readerGets_187 rfl rfl ?_
            refine g_getfield (v := .ref 127) (q := 191) C fX8_22 dX8_readerGets_188 rfl HM'.1 rfl ?_
            refine g_sipush (v := 422) (q := 194) C dX8_readerGets_191 (by decide) rfl ?_
            refine g_iconst (v := 0) (q := 195) C dX8_readerGets_194 (by decide) rfl ?_
            refine g_iastoreN (j := 422) (q := 196) C dX8_readerGets_195 rfl (HM'.ar (i := 4) (n := 772) (by decide) rfl) (pk_in 422 772 (by decide)) (pk_cl 422) ?_
            refine gMsto (i := 4) (j := 422) (x := 0) HM' (by decide) rfl rfl fun h6 HL6 fr6 => ?_
            exact E9.2.1 _ _ _ _ _ dX8_readerGets_196 rfl (Nat.le_of_ble_eq_true rfl) (Nat.le_of_ble_eq_true rfl) ⟨rfl, _, _, HL6, (gFM.trans (gFM.trans fr1 frA) fr6), by rw [ep]; exact gDo.put dd⟩
          ·
            rw [if_neg c] at ok ep
            obtain ⟨e2, ok⟩ := ok
            obtain ⟨rfl, rfl⟩ := dd.no e2
            refine g_aload_n (q := 174) C dX8_readerGets_173 rfl rfl ?_
            refine g_getfield (v := .int (((((pX8_readerTold (rX8_tries M 0 0))).1).f 34))) (q := 177) C fX8_219 dX8_readerGets_174 rfl HM'.1 rfl ?_
            refine g_if_le_f (t := 187) (q := 180) C dX8_readerGets_177 (by decide) rfl c ?_
            refine g_aload_n (q := 181) C dX8_readerGets_180 rfl rfl ?_
            refine g_callVvp (q := 184) (As := []) C gyX8_triesOn gvX8_triesOn t_1420 (c_X8_triesOn_p HM' ok) dX8_readerGets_181 rfl HM'.1 rfl rfl rfl (Nat.le_of_ble_eq_true rfl) (Nat.le_of_ble_eq_true rfl) (Nat.le_of_ble_eq_true rfl) (Nat.le_of_ble_eq_true rfl) (Nat.le_of_ble_eq_true rfl) rfl (fun h7 z7 => ?_)
            obtain ⟨M', E', HM', frs, dd⟩ := z7
            refine g_goto (q := 196) C dX8_readerGets_184 (by decide) ?_
            exact E9.2.1 _ _ _ _ _ dX8_readerGets_196 rfl (Nat.le_of_ble_eq_true rfl) (Nat.le_of_ble_eq_true rfl) ⟨rfl, _, _, HM', (gFM.trans (gFM.trans fr1 frA) frs), by rw [ep]; exact dd⟩
          
      ·
        rw [if_neg c_102] at ok ep
        refine g_aload_n (q := 106) C dX8_readerGets_105 rfl rfl ?_
        refine g_iconst (v := 0) (q := 107) C dX8_readerGets_106 (by decide) rfl ?_
        obtain ⟨hin, hcm, ok⟩ := ok
        refine g_callVix (x := (rX8_takes_0 (rX8_tries M 0 0)).1) (q := 110) (As := [.int 0]) C gyX8_takes gvX8_takes t_1380 (c_X8_takes_0_m HL1 hin hcm) dX8_readerGets_107 rfl HL1.1 rfl rfl rfl (Nat.le_of_ble_eq_true rfl) (Nat.le_of_ble_eq_true rfl) (Nat.le_of_ble_eq_true rfl) (Nat.le_of_ble_eq_true rfl) (Nat.le_of_ble_eq_true rfl) rfl (fun h8 z8 => ?_)
        obtain ⟨HL8, fr8⟩ := z8
        refine g_if_ne (t := 122) (q := 113) C dX8_readerGets_110 (by decide) rfl (fun c_110 => ?_) (fun c_110 => ?_)
        ·
          rw [if_neg c_110] at ok ep
          refine g_aload_n (q := 123) C dX8_readerGets_122 rfl rfl ?_
          refine g_callVi (x := (rX8_hasMoreCome ((rX8_takes_0 (rX8_tries M 0 0)).2))) (q := 126) (As := []) C gyX8_hasMoreCome gvX8_hasMoreCome t_1388 (c_X8_hasMoreCome_m HL8) dX8_readerGets_123 rfl HL8.1 rfl rfl rfl (Nat.le_of_ble_eq_true rfl) (Nat.le_of_ble_eq_true rfl) (Nat.le_of_ble_eq_true rfl) (Nat.le_of_ble_eq_true rfl) (Nat.le_of_ble_eq_true rfl) rfl ?_
          refine g_if_eq (t := 138) (q := 129) C dX8_readerGets_126 (by decide) rfl (fun c_126 => ?_) (fun c_126 => ?_)
          ·
            rw [if_pos c_126] at ok ep
            refine g_aload_n (q := 139) C dX8_readerGets_138 rfl rfl ?_
            refine g_iconst (v := 0) (q := 140) C dX8_readerGets_139 (by decide) rfl ?_
            obtain ⟨hn8, ok⟩ := ok
            refine g_callVvp (q := 143) (As := [.int 0]) C gyX8_messageCame gvX8_messageCame t_1396 (c_X8_messageCame_0_m HL8 hn8) dX8_readerGets_140 rfl HL8.1 rfl rfl rfl (Nat.le_of_ble_eq_true rfl) (Nat.le_of_ble_eq_true rfl) (Nat.le_of_ble_eq_true rfl) (Nat.le_of_ble_eq_true rfl) (Nat.le_of_ble_eq_true rfl) rfl (fun h9 z9 => ?_)
            obtain ⟨HL9, fr9⟩ := z9
            refine g_aload_n (q := 144) C dX8_readerGets_143 rfl rfl ?_
            refine g_callVvp (q := 147) (As := []) C gyX8_done gvX8_done t_1368 (c_X8_done_m HL9) dX8_readerGets_144 rfl HL9.1 rfl rfl rfl (Nat.le_of_ble_eq_true rfl) (Nat.le_of_ble_eq_true rfl) (Nat.le_of_ble_eq_true rfl) (Nat.le_of_ble_eq_true rfl) (Nat.le_of_ble_eq_true rfl) rfl (fun h10 z10 => ?_)
            obtain ⟨HL10, fr10⟩ := z10
            refine g_goto (q := 173) C dX8_readerGets_147 (by decide) ?_
            refine g_aload_n (q := 174) C dX8_readerGets_173 rfl rfl ?_
            refine g_getfield (v := .int (((rX8_done (rX8_messageCame_0 ((rX8_takes_0 (rX8_tries M 0 0)).2))).f 34))) (q := 177) C fX8_219 dX8_readerGets_174 rfl HL10.1 rfl ?_
            refine g_if_le (t := 187) (q := 180) C dX8_readerGets_177 (by decide) rfl (fun c_177 => ?_) (fun c_177 => ?_)
            ·
              rw [if_pos c_177] at ok ep
              refine g_aload_n (q := 188) C dX8_readerGets_187 rfl rfl ?_
              refine g_getfield (v := .ref 127) (q := 191) C fX8_22 dX8_readerGets_188 rfl HL10.1 rfl ?_
              refine g_sipush (v := 422) (q := 194) C dX8_readerGets_191 (by decide) rfl ?_
              refine g_iconst (v := 0) (q := 195) C dX8_readerGets_194 (by decide) rfl ?_
              refine g_iastoreN (j := 422) (q := 196) C dX8_readerGets_195 rfl (HL10.ar (i := 4) (n := 772) (by decide) rfl) (pk_in 422 772 (by decide)) (pk_cl 422) ?_
              refine gMsto (i := 4) (j := 422) (x := 0) HL10 (by decide) rfl rfl fun h11 HL11 fr11 => ?_
              exact E9.2.1 _ _ _ _ _ dX8_readerGets_196 rfl (Nat.le_of_ble_eq_true rfl) (Nat.le_of_ble_eq_true rfl) ⟨rfl, _, E, HL11, (gFM.trans (gFM.trans (gFM.trans (gFM.trans fr1 fr8) fr9) fr10) fr11), by rw [ep]; exact ⟨rfl, rfl⟩⟩
            ·
              rw [if_neg c_177] at ok ep
              refine g_aload_n (q := 181) C dX8_readerGets_180 rfl rfl ?_
              refine g_callVvp (q := 184) (As := []) C gyX8_triesOn gvX8_triesOn t_1420 (c_X8_triesOn_p HL10 ok) dX8_readerGets_181 rfl HL10.1 rfl rfl rfl (Nat.le_of_ble_eq_true rfl) (Nat.le_of_ble_eq_true rfl) (Nat.le_of_ble_eq_true rfl) (Nat.le_of_ble_eq_true rfl) (Nat.le_of_ble_eq_true rfl) rfl (fun h12 z12 => ?_)
              obtain ⟨M', E', HM', frs, dd⟩ := z12
              refine g_goto (q := 196) C dX8_readerGets_184 (by decide) ?_
              exact E9.2.1 _ _ _ _ _ dX8_readerGets_196 rfl (Nat.le_of_ble_eq_true rfl) (Nat.le_of_ble_eq_true rfl) ⟨rfl, _, _, HM', (gFM.trans (gFM.trans (gFM.trans (gFM.trans fr1 fr8) fr9) fr10) frs), by rw [ep]; exact dd⟩
            
          ·
            rw [if_neg c_126] at ok ep
            refine g_aload_n (q := 130) C dX8_readerGets_129 rfl rfl ?_
            refine g_iconst (v := 0) (q := 131) C dX8_readerGets_130 (by decide) rfl ?_
            refine g_iconst (v := 0) (q := 132) C dX8_readerGets_131 (by decide) rfl ?_
            obtain ⟨ok, okR⟩ := ok
            refine g_callVvp (q := 135) (As := [.int 0, .int 0]) C gyX8_sendsR gvX8_sendsR t_1392 (c_X8_sendsR_0_p HL8 ok) dX8_readerGets_132 rfl HL8.1 rfl rfl rfl (Nat.le_of_ble_eq_true rfl) (Nat.le_of_ble_eq_true rfl) (Nat.le_of_ble_eq_true rfl) (Nat.le_of_ble_eq_true rfl) (Nat.le_of_ble_eq_true rfl) rfl (fun h13 z13 => ?_)
            obtain ⟨M', E', HM', frs, dd⟩ := z13
            refine g_goto (q := 173) C dX8_readerGets_135 (by decide) ?_
            have t34 := dd.f34
            clear ok
            have ok := okR
            have frA := frs
            by_cases c : ((pX8_sendsR_0 ((rX8_takes_0 (rX8_tries M 0 0)).2) 0)).1.f 34 ≤ 0
            ·
              rw [if_pos c] at ok ep
              refine g_aload_n (q := 174) C dX8_readerGets_173 rfl rfl ?_
              refine g_getfield (v := .int (((M').f 34))) (q := 177) C fX8_219 dX8_readerGets_174 rfl HM'.1 rfl ?_
              refine g_if_le_t (t := 187) C dX8_readerGets_177 (by decide) (by rw [t34]; exact c) ?_
              refine g_aload_n (q := 188) C dX8_readerGets_187 rfl rfl ?_
              refine g_getfield (v := .ref 127) (q := 191) C fX8_22 dX8_readerGets_188 rfl HM'.1 rfl ?_
              refine g_sipush (v := 422) (q := 194) C dX8_readerGets_191 (by decide) rfl ?_
              refine g_iconst (v := 0) (q := 195) C dX8_readerGets_194 (by decide) rfl ?_
              refine g_iastoreN (j := 422) (q := 196) C dX8_readerGets_195 rfl (HM'.ar (i := 4) (n := 772) (by decide) rfl) (pk_in 422 772 (by decide)) (pk_cl 422) ?_
              refine gMsto (i := 4) (j := 422) (x := 0) HM' (by decide) rfl rfl fun h14 HL14 fr14 => ?_
              exact E9.2.1 _ _ _ _ _ dX8_readerGets_196 rfl (Nat.le_of_ble_eq_true rfl) (Nat.le_of_ble_eq_true rfl) ⟨rfl, _, _, HL14, (gFM.trans (gFM.trans (gFM.trans fr1 fr8) frA) fr14), by rw [ep]; exact gDo.put dd⟩
            ·
              rw [if_neg c] at ok ep
              obtain ⟨e2, ok⟩ := ok
              obtain ⟨rfl, rfl⟩ := dd.no e2
              refine g_aload_n (q := 174) C dX8_readerGets_173 rfl rfl ?_
              refine g_getfield (v := .int (((((pX8_sendsR_0 ((rX8_takes_0 (rX8_tries M 0 0)).2) 0)).1).f 34))) (q := 177) C fX8_219 dX8_readerGets_174 rfl HM'.1 rfl ?_
              refine g_if_le_f (t := 187) (q := 180) C dX8_readerGets_177 (by decide) rfl c ?_
              refine g_aload_n (q := 181) C dX8_readerGets_180 rfl rfl ?_
              refine g_callVvp (q := 184) (As := []) C gyX8_triesOn gvX8_triesOn t_1420 (c_X8_triesOn_p HM' ok) dX8_readerGets_181 rfl HM'.1 rfl rfl rfl (Nat.le_of_ble_eq_true rfl) (Nat.le_of_ble_eq_true rfl) (Nat.le_of_ble_eq_true rfl) (Nat.le_of_ble_eq_true rfl) (Nat.le_of_ble_eq_true rfl) rfl (fun h15 z15 => ?_)
              obtain ⟨M', E', HM', frs, dd⟩ := z15
              refine g_goto (q := 196) C dX8_readerGets_184 (by decide) ?_
              exact E9.2.1 _ _ _ _ _ dX8_readerGets_196 rfl (Nat.le_of_ble_eq_true rfl) (Nat.le_of_ble_eq_true rfl) ⟨rfl, _, _, HM', (gFM.trans (gFM.trans (gFM.trans fr1 fr8) frA) frs), by rw [ep]; exact dd⟩
            
        ·
          rw [if_pos c_110] at ok ep
          refine g_aload_n (q := 114) C dX8_readerGets_113 rfl rfl ?_
          refine g_iconst (v := 2) (q := 115) C dX8_readerGets_114 (by decide) rfl ?_
          refine g_iconst (v := 2) (q := 116) C dX8_readerGets_115 (by decide) rfl ?_
          refine g_callVvp (q := 119) (As := [.int 2, .int 2]) C gyX8_tries gvX8_tries t_1356 (c_X8_tries_m HL8) dX8_readerGets_116 rfl HL8.1 rfl rfl rfl (Nat.le_of_ble_eq_true rfl) (Nat.le_of_ble_eq_true rfl) (Nat.le_of_ble_eq_true rfl) (Nat.le_of_ble_eq_true rfl) (Nat.le_of_ble_eq_true rfl) rfl (fun h16 z16 => ?_)
          obtain ⟨HL16, fr16⟩ := z16
          refine g_goto (q := 173) C dX8_readerGets_119 (by decide) ?_
          refine g_aload_n (q := 174) C dX8_readerGets_173 rfl rfl ?_
          refine g_getfield (v := .int (((rX8_tries ((rX8_takes_0 (rX8_tries M 0 0)).2) 2 2).f 34))) (q := 177) C fX8_219 dX8_readerGets_174 rfl HL16.1 rfl ?_
          refine g_if_le (t := 187) (q := 180) C dX8_readerGets_177 (by decide) rfl (fun c_177 => ?_) (fun c_177 => ?_)
          ·
            rw [if_pos c_177] at ok ep
            refine g_aload_n (q := 188) C dX8_readerGets_187 rfl rfl ?_
            refine g_getfield (v := .ref 127) (q := 191) C fX8_22 dX8_readerGets_188 rfl HL16.1 rfl ?_
            refine g_sipush (v := 422) (q := 194) C dX8_readerGets_191 (by decide) rfl ?_
            refine g_iconst (v := 0) (q := 195) C dX8_readerGets_194 (by decide) rfl ?_
            refine g_iastoreN (j := 422) (q := 196) C dX8_readerGets_195 rfl (HL16.ar (i := 4) (n := 772) (by decide) rfl) (pk_in 422 772 (by decide)) (pk_cl 422) ?_
            refine gMsto (i := 4) (j := 422) (x := 0) HL16 (by decide) rfl rfl fun h17 HL17 fr17 => ?_
            exact E9.2.1 _ _ _ _ _ dX8_readerGets_196 rfl (Nat.le_of_ble_eq_true rfl) (Nat.le_of_ble_eq_true rfl) ⟨rfl, _, E, HL17, (gFM.trans (gFM.trans (gFM.trans fr1 fr8) fr16) fr17), by rw [ep]; exact ⟨rfl, rfl⟩⟩
          ·
            rw [if_neg c_177] at ok ep
            refine g_aload_n (q := 181) C dX8_readerGets_180 rfl rfl ?_
            refine g_callVvp (q := 184) (As := []) C gyX8_triesOn gvX8_triesOn t_1420 (c_X8_triesOn_p HL16 ok) dX8_readerGets_181 rfl HL16.1 rfl rfl rfl (Nat.le_of_ble_eq_true rfl) (Nat.le_of_ble_eq_true rfl) (Nat.le_of_ble_eq_true rfl) (Nat.le_of_ble_eq_true rfl) (Nat.le_of_ble_eq_true rfl) rfl (fun h18 z18 => ?_)
            obtain ⟨M', E', HM', frs, dd⟩ := z18
            refine g_goto (q := 196) C dX8_readerGets_184 (by decide) ?_
            exact E9.2.1 _ _ _ _ _ dX8_readerGets_196 rfl (Nat.le_of_ble_eq_true rfl) (Nat.le_of_ble_eq_true rfl) ⟨rfl, _, _, HM', (gFM.trans (gFM.trans (gFM.trans fr1 fr8) fr16) frs), by rw [ep]; exact dd⟩
          
    ·
      rw [if_neg c_66] at ok ep
      refine g_aload_n (q := 70) C dX8_readerGets_69 rfl rfl ?_
      refine g_iconst (v := 0) (q := 71) C dX8_readerGets_70 (by decide) rfl ?_
      refine g_callVi (x := (rX8_isResponse_0 (rX8_tries M 0 0))) (q := 74) (As := [.int 0]) C gyX8_isResponse gvX8_isResponse t_1360 (c_X8_isResponse_0_m HL1) dX8_readerGets_71 rfl HL1.1 rfl rfl rfl (Nat.le_of_ble_eq_true rfl) (Nat.le_of_ble_eq_true rfl) (Nat.le_of_ble_eq_true rfl) (Nat.le_of_ble_eq_true rfl) (Nat.le_of_ble_eq_true rfl) rfl ?_
      refine g_if_eq (t := 84) (q := 77) C dX8_readerGets_74 (by decide) rfl (fun c_74 => ?_) (fun c_74 => ?_)
      ·
        rw [if_pos c_74] at ok ep
        refine g_aload_n (q := 85) C dX8_readerGets_84 rfl rfl ?_
        refine g_iconst (v := 1) (q := 86) C dX8_readerGets_85 (by decide) rfl ?_
        refine g_iconst (v := 0) (q := 87) C dX8_readerGets_86 (by decide) rfl ?_
        refine g_callVvp (q := 90) (As := [.int 1, .int 0]) C gyX8_tries gvX8_tries t_1356 (c_X8_tries_m HL1) dX8_readerGets_87 rfl HL1.1 rfl rfl rfl (Nat.le_of_ble_eq_true rfl) (Nat.le_of_ble_eq_true rfl) (Nat.le_of_ble_eq_true rfl) (Nat.le_of_ble_eq_true rfl) (Nat.le_of_ble_eq_true rfl) rfl (fun h19 z19 => ?_)
        obtain ⟨HL19, fr19⟩ := z19
        refine g_goto (q := 173) C dX8_readerGets_90 (by decide) ?_
        refine g_aload_n (q := 174) C dX8_readerGets_173 rfl rfl ?_
        refine g_getfield (v := .int (((rX8_tries (rX8_tries M 0 0) 1 0).f 34))) (q := 177) C fX8_219 dX8_readerGets_174 rfl HL19.1 rfl ?_
        refine g_if_le (t := 187) (q := 180) C dX8_readerGets_177 (by decide) rfl (fun c_177 => ?_) (fun c_177 => ?_)
        ·
          rw [if_pos c_177] at ok ep
          refine g_aload_n (q := 188) C dX8_readerGets_187 rfl rfl ?_
          refine g_getfield (v := .ref 127) (q := 191) C fX8_22 dX8_readerGets_188 rfl HL19.1 rfl ?_
          refine g_sipush (v := 422) (q := 194) C dX8_readerGets_191 (by decide) rfl ?_
          refine g_iconst (v := 0) (q := 195) C dX8_readerGets_194 (by decide) rfl ?_
          refine g_iastoreN (j := 422) (q := 196) C dX8_readerGets_195 rfl (HL19.ar (i := 4) (n := 772) (by decide) rfl) (pk_in 422 772 (by decide)) (pk_cl 422) ?_
          refine gMsto (i := 4) (j := 422) (x := 0) HL19 (by decide) rfl rfl fun h20 HL20 fr20 => ?_
          exact E9.2.1 _ _ _ _ _ dX8_readerGets_196 rfl (Nat.le_of_ble_eq_true rfl) (Nat.le_of_ble_eq_true rfl) ⟨rfl, _, E, HL20, (gFM.trans (gFM.trans fr1 fr19) fr20), by rw [ep]; exact ⟨rfl, rfl⟩⟩
        ·
          rw [if_neg c_177] at ok ep
          refine g_aload_n (q := 181) C dX8_readerGets_180 rfl rfl ?_
          refine g_callVvp (q := 184) (As := []) C gyX8_triesOn gvX8_triesOn t_1420 (c_X8_triesOn_p HL19 ok) dX8_readerGets_181 rfl HL19.1 rfl rfl rfl (Nat.le_of_ble_eq_true rfl) (Nat.le_of_ble_eq_true rfl) (Nat.le_of_ble_eq_true rfl) (Nat.le_of_ble_eq_true rfl) (Nat.le_of_ble_eq_true rfl) rfl (fun h21 z21 => ?_)
          obtain ⟨M', E', HM', frs, dd⟩ := z21
          refine g_goto (q := 196) C dX8_readerGets_184 (by decide) ?_
          exact E9.2.1 _ _ _ _ _ dX8_readerGets_196 rfl (Nat.le_of_ble_eq_true rfl) (Nat.le_of_ble_eq_true rfl) ⟨rfl, _, _, HM', (gFM.trans (gFM.trans fr1 fr19) frs), by rw [ep]; exact dd⟩
        
      ·
        rw [if_neg c_74] at ok ep
        refine g_aload_n (q := 78) C dX8_readerGets_77 rfl rfl ?_
        refine g_callVvp (q := 81) (As := []) C gyX8_readerAnswered gvX8_readerAnswered t_1364 (c_X8_readerAnswered_m HL1) dX8_readerGets_78 rfl HL1.1 rfl rfl rfl (Nat.le_of_ble_eq_true rfl) (Nat.le_of_ble_eq_true rfl) (Nat.le_of_ble_eq_true rfl) (Nat.le_of_ble_eq_true rfl) (Nat.le_of_ble_eq_true rfl) rfl (fun h22 z22 => ?_)
        obtain ⟨HL22, fr22⟩ := z22
        refine g_goto (q := 173) C dX8_readerGets_81 (by decide) ?_
        refine g_aload_n (q := 174) C dX8_readerGets_173 rfl rfl ?_
        refine g_getfield (v := .int (((rX8_readerAnswered (rX8_tries M 0 0)).f 34))) (q := 177) C fX8_219 dX8_readerGets_174 rfl HL22.1 rfl ?_
        refine g_if_le (t := 187) (q := 180) C dX8_readerGets_177 (by decide) rfl (fun c_177 => ?_) (fun c_177 => ?_)
        ·
          rw [if_pos c_177] at ok ep
          refine g_aload_n (q := 188) C dX8_readerGets_187 rfl rfl ?_
          refine g_getfield (v := .ref 127) (q := 191) C fX8_22 dX8_readerGets_188 rfl HL22.1 rfl ?_
          refine g_sipush (v := 422) (q := 194) C dX8_readerGets_191 (by decide) rfl ?_
          refine g_iconst (v := 0) (q := 195) C dX8_readerGets_194 (by decide) rfl ?_
          refine g_iastoreN (j := 422) (q := 196) C dX8_readerGets_195 rfl (HL22.ar (i := 4) (n := 772) (by decide) rfl) (pk_in 422 772 (by decide)) (pk_cl 422) ?_
          refine gMsto (i := 4) (j := 422) (x := 0) HL22 (by decide) rfl rfl fun h23 HL23 fr23 => ?_
          exact E9.2.1 _ _ _ _ _ dX8_readerGets_196 rfl (Nat.le_of_ble_eq_true rfl) (Nat.le_of_ble_eq_true rfl) ⟨rfl, _, E, HL23, (gFM.trans (gFM.trans fr1 fr22) fr23), by rw [ep]; exact ⟨rfl, rfl⟩⟩
        ·
          rw [if_neg c_177] at ok ep
          refine g_aload_n (q := 181) C dX8_readerGets_180 rfl rfl ?_
          refine g_callVvp (q := 184) (As := []) C gyX8_triesOn gvX8_triesOn t_1420 (c_X8_triesOn_p HL22 ok) dX8_readerGets_181 rfl HL22.1 rfl rfl rfl (Nat.le_of_ble_eq_true rfl) (Nat.le_of_ble_eq_true rfl) (Nat.le_of_ble_eq_true rfl) (Nat.le_of_ble_eq_true rfl) (Nat.le_of_ble_eq_true rfl) rfl (fun h24 z24 => ?_)
          obtain ⟨M', E', HM', frs, dd⟩ := z24
          refine g_goto (q := 196) C dX8_readerGets_184 (by decide) ?_
          exact E9.2.1 _ _ _ _ _ dX8_readerGets_196 rfl (Nat.le_of_ble_eq_true rfl) (Nat.le_of_ble_eq_true rfl) ⟨rfl, _, _, HM', (gFM.trans (gFM.trans fr1 fr22) frs), by rw [ep]; exact dd⟩
        
  ·
    rw [if_neg c_12] at ok ep
    refine g_aload_n (q := 16) C dX8_readerGets_15 rfl rfl ?_
    refine g_getfield (v := .ref 127) (q := 19) C fX8_22 dX8_readerGets_16 rfl HL1.1 rfl ?_
    refine g_iload_n (q := 20) C dX8_readerGets_19 rfl rfl ?_
    refine g_bipush (v := 9) (q := 22) C dX8_readerGets_20 (by decide) rfl ?_
    refine g_iadd (q := 23) C dX8_readerGets_22 rfl ?_
    refine g_ialoadN (x := ((rX8_tries M 0 0).a 4 9)) (j := 9) (q := 24) C dX8_readerGets_23 rfl (HL1.ar (i := 4) (n := 772) (by decide) rfl) (pk_in 9 772 (by decide)) (pk_cl 9) rfl ?_
    refine g_if_lt (t := 36) (q := 27) C dX8_readerGets_24 (by decide) rfl (fun c_24 => ?_) (fun c_24 => ?_)
    ·
      rw [if_pos c_24] at ok ep
      refine g_aload_n (q := 37) C dX8_readerGets_36 rfl rfl ?_
      refine g_iconst (v := 2) (q := 38) C dX8_readerGets_37 (by decide) rfl ?_
      refine g_aload_n (q := 39) C dX8_readerGets_38 rfl rfl ?_
      refine g_getfield (v := .int (((rX8_tries M 0 0).f 29))) (q := 42) C fX8_176 dX8_readerGets_39 rfl HL1.1 rfl ?_
      refine g_iconst (v := 1) (q := 43) C dX8_readerGets_42 (by decide) rfl ?_
      suffices K43 : gG X 51 [some (.ref 122), some (.int 0)] [.int (if ((rX8_tries M 0 0).f 29) = 1 then 1 else 2 : Int32), .int 2, .ref 122] h1 0 0 by
        refine g_icmp_ne (t := 50) (q := 46) C dX8_readerGets_43 (by decide) rfl (fun c_43 => ?_) (fun c_43 => ?_)
        · refine g_iconst (v := 2) (q := 51) C dX8_readerGets_50 (by decide) rfl ?_
          rw [if_neg c_43] at K43
          exact K43
        · refine g_iconst (v := 1) (q := 47) C dX8_readerGets_46 (by decide) rfl ?_
          refine g_goto (q := 51) C dX8_readerGets_47 (by decide) ?_
          rw [if_pos c_43] at K43
          exact K43
      refine g_callVvp (q := 54) (As := [.int 2, .int ((if ((rX8_tries M 0 0).f 29) = 1 then 1 else 2 : Int32))]) C gyX8_tries gvX8_tries t_1356 (c_X8_tries_m HL1) dX8_readerGets_51 rfl HL1.1 rfl rfl rfl (Nat.le_of_ble_eq_true rfl) (Nat.le_of_ble_eq_true rfl) (Nat.le_of_ble_eq_true rfl) (Nat.le_of_ble_eq_true rfl) (Nat.le_of_ble_eq_true rfl) rfl (fun h25 z25 => ?_)
      obtain ⟨HL25, fr25⟩ := z25
      refine g_goto (q := 173) C dX8_readerGets_54 (by decide) ?_
      refine g_aload_n (q := 174) C dX8_readerGets_173 rfl rfl ?_
      refine g_getfield (v := .int (((rX8_tries (rX8_tries M 0 0) 2 (if ((rX8_tries M 0 0).f 29) = 1 then 1 else 2 : Int32)).f 34))) (q := 177) C fX8_219 dX8_readerGets_174 rfl HL25.1 rfl ?_
      refine g_if_le (t := 187) (q := 180) C dX8_readerGets_177 (by decide) rfl (fun c_177 => ?_) (fun c_177 => ?_)
      ·
        rw [if_pos c_177] at ok ep
        refine g_aload_n (q := 188) C dX8_readerGets_187 rfl rfl ?_
        refine g_getfield (v := .ref 127) (q := 191) C fX8_22 dX8_readerGets_188 rfl HL25.1 rfl ?_
        refine g_sipush (v := 422) (q := 194) C dX8_readerGets_191 (by decide) rfl ?_
        refine g_iconst (v := 0) (q := 195) C dX8_readerGets_194 (by decide) rfl ?_
        refine g_iastoreN (j := 422) (q := 196) C dX8_readerGets_195 rfl (HL25.ar (i := 4) (n := 772) (by decide) rfl) (pk_in 422 772 (by decide)) (pk_cl 422) ?_
        refine gMsto (i := 4) (j := 422) (x := 0) HL25 (by decide) rfl rfl fun h26 HL26 fr26 => ?_
        exact E9.2.1 _ _ _ _ _ dX8_readerGets_196 rfl (Nat.le_of_ble_eq_true rfl) (Nat.le_of_ble_eq_true rfl) ⟨rfl, _, E, HL26, (gFM.trans (gFM.trans fr1 fr25) fr26), by rw [ep]; exact ⟨rfl, rfl⟩⟩
      ·
        rw [if_neg c_177] at ok ep
        refine g_aload_n (q := 181) C dX8_readerGets_180 rfl rfl ?_
        refine g_callVvp (q := 184) (As := []) C gyX8_triesOn gvX8_triesOn t_1420 (c_X8_triesOn_p HL25 ok) dX8_readerGets_181 rfl HL25.1 rfl rfl rfl (Nat.le_of_ble_eq_true rfl) (Nat.le_of_ble_eq_true rfl) (Nat.le_of_ble_eq_true rfl) (Nat.le_of_ble_eq_true rfl) (Nat.le_of_ble_eq_true rfl) rfl (fun h27 z27 => ?_)
        obtain ⟨M', E', HM', frs, dd⟩ := z27
        refine g_goto (q := 196) C dX8_readerGets_184 (by decide) ?_
        exact E9.2.1 _ _ _ _ _ dX8_readerGets_196 rfl (Nat.le_of_ble_eq_true rfl) (Nat.le_of_ble_eq_true rfl) ⟨rfl, _, _, HM', (gFM.trans (gFM.trans fr1 fr25) frs), by rw [ep]; exact dd⟩
      
    ·
      rw [if_neg c_24] at ok ep
      refine g_aload_n (q := 28) C dX8_readerGets_27 rfl rfl ?_
      refine g_iconst (v := 1) (q := 29) C dX8_readerGets_28 (by decide) rfl ?_
      refine g_iconst (v := 0) (q := 30) C dX8_readerGets_29 (by decide) rfl ?_
      refine g_callVvp (q := 33) (As := [.int 1, .int 0]) C gyX8_tries gvX8_tries t_1356 (c_X8_tries_m HL1) dX8_readerGets_30 rfl HL1.1 rfl rfl rfl (Nat.le_of_ble_eq_true rfl) (Nat.le_of_ble_eq_true rfl) (Nat.le_of_ble_eq_true rfl) (Nat.le_of_ble_eq_true rfl) (Nat.le_of_ble_eq_true rfl) rfl (fun h28 z28 => ?_)
      obtain ⟨HL28, fr28⟩ := z28
      refine g_goto (q := 173) C dX8_readerGets_33 (by decide) ?_
      refine g_aload_n (q := 174) C dX8_readerGets_173 rfl rfl ?_
      refine g_getfield (v := .int (((rX8_tries (rX8_tries M 0 0) 1 0).f 34))) (q := 177) C fX8_219 dX8_readerGets_174 rfl HL28.1 rfl ?_
      refine g_if_le (t := 187) (q := 180) C dX8_readerGets_177 (by decide) rfl (fun c_177 => ?_) (fun c_177 => ?_)
      ·
        rw [if_pos c_177] at ok ep
        refine g_aload_n (q := 188) C dX8_readerGets_187 rfl rfl ?_
        refine g_getfield (v := .ref 127) (q := 191) C fX8_22 dX8_readerGets_188 rfl HL28.1 rfl ?_
        refine g_sipush (v := 422) (q := 194) C dX8_readerGets_191 (by decide) rfl ?_
        refine g_iconst (v := 0) (q := 195) C dX8_readerGets_194 (by decide) rfl ?_
        refine g_iastoreN (j := 422) (q := 196) C dX8_readerGets_195 rfl (HL28.ar (i := 4) (n := 772) (by decide) rfl) (pk_in 422 772 (by decide)) (pk_cl 422) ?_
        refine gMsto (i := 4) (j := 422) (x := 0) HL28 (by decide) rfl rfl fun h29 HL29 fr29 => ?_
        exact E9.2.1 _ _ _ _ _ dX8_readerGets_196 rfl (Nat.le_of_ble_eq_true rfl) (Nat.le_of_ble_eq_true rfl) ⟨rfl, _, E, HL29, (gFM.trans (gFM.trans fr1 fr28) fr29), by rw [ep]; exact ⟨rfl, rfl⟩⟩
      ·
        rw [if_neg c_177] at ok ep
        refine g_aload_n (q := 181) C dX8_readerGets_180 rfl rfl ?_
        refine g_callVvp (q := 184) (As := []) C gyX8_triesOn gvX8_triesOn t_1420 (c_X8_triesOn_p HL28 ok) dX8_readerGets_181 rfl HL28.1 rfl rfl rfl (Nat.le_of_ble_eq_true rfl) (Nat.le_of_ble_eq_true rfl) (Nat.le_of_ble_eq_true rfl) (Nat.le_of_ble_eq_true rfl) (Nat.le_of_ble_eq_true rfl) rfl (fun h30 z30 => ?_)
        obtain ⟨M', E', HM', frs, dd⟩ := z30
        refine g_goto (q := 196) C dX8_readerGets_184 (by decide) ?_
        exact E9.2.1 _ _ _ _ _ dX8_readerGets_196 rfl (Nat.le_of_ble_eq_true rfl) (Nat.le_of_ble_eq_true rfl) ⟨rfl, _, _, HM', (gFM.trans (gFM.trans fr1 fr28) frs), by rw [ep]; exact dd⟩
      
