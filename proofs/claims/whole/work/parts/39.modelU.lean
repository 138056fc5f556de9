/-! A SCRIPT'S COMMANDS, in the model and in the class -/
/-- a bureau with nothing in it -/
def E0 (B : Bu) : Prop := B.1 5 = 0 ∧ B.1 7 = nI 0 ∧ B.1 8 = nI 0
theorem E0_begin {B : Bu} (h : E0 B) : E0 (P_trade 0 (P_begin 0 B)) := by
  unfold P_begin
  rw [P_trade_0, P_drift_0]
  exact ⟨by show u1 B.1 9 (B.1 9 + 1) 5 = 0; rw [u1_ne (by omega)]; exact h.1, by show u1 B.1 9 (B.1 9 + 1) 7 = nI 0; rw [u1_ne (by omega)]; exact h.2.1, by show u1 B.1 9 (B.1 9 + 1) 8 = nI 0; rw [u1_ne (by omega)]; exact h.2.2⟩
theorem E0_day {q : Nat × Bu} (h : E0 q.2) : E0 (P_day 0 0 0 q).2 := E0_begin h
theorem E0_pass : ∀ (n : Nat) (q : Nat × Bu), E0 q.2 → E0 (P_pass 0 0 0 n q).2
  | 0, _, h => h
  | n + 1, q, h => E0_pass n (P_day 0 0 0 q) (E0_day h)
/-- a bureau that a script may run on -/
def Gq (B : Bu) (nw sc ni U : Nat) : Prop := Gd B nw sc ni U ∨ (nw = 0 ∧ sc = 0 ∧ ni = 0 ∧ E0 B)
theorem Gq.n6 {B : Bu} {nw sc ni U : Nat} (h : Gq B nw sc ni U) : nw ≤ 6 := by rcases h with h | h; exact h.1.2.1; omega
theorem Gq.s8 {B : Bu} {nw sc ni U : Nat} (h : Gq B nw sc ni U) : sc ≤ 8 := by rcases h with h | h; exact h.1.2.2.2.1; omega
theorem Gq.ew {B : Bu} {nw sc ni U : Nat} (h : Gq B nw sc ni U) : B.1 7 = nI nw := by
  rcases h with h | ⟨e, -, -, h⟩
  · exact h.1.1
  · rw [e]; exact h.2.1
theorem Gq.es {B : Bu} {nw sc ni U : Nat} (h : Gq B nw sc ni U) : B.1 8 = nI sc := by
  rcases h with h | ⟨-, e, -, h⟩
  · exact h.1.2.2.1
  · rw [e]; exact h.2.2
theorem Gq.gd {B : Bu} {nw sc ni U i : Nat} (h : Gq B nw sc ni U) (hi : i < sc) : Gd B nw sc ni U := by
  rcases h with h | ⟨-, e, -, h⟩
  · exact h
  · omega
theorem Gd_do {B : Bu} {nw sc ni U v a nm : Nat} (h : Gd B nw sc ni U) (hU : U + nm ≤ 1999999990) (ha : v ≠ 0 → a < sc) (hn : nm ≤ 100) : Gd (P_do nw sc ni v a (nI nm) B).2 nw sc ni (U + nm + 1) := by
  have hm := h.mono (V := U + nm + 1) (by omega)
  unfold P_do
  split
  · rw [nI_clamp (by omega)]
    exact (Gd_pass nm U (0, B) h (by omega)).mono (by omega)
  · next v0 =>
    have ha := ha v0
    split
    · split
      · exact hm
      · exact Gd_ins hm ha
    · split
      · split
        · exact Gd_repair hm ha
        · exact hm
      · split
        · exact Gd_sS hm (Sg_u (hm.sg ha) (by decide))
        · split
          · split
            · exact hm
            · exact (Gd_sS (h.mono (by omega)) (Sg_8 (h.sg ha) (by omega))).mono (by omega)
          · split
            · exact Gd_sS hm (Sg_open (hm.sg ha))
            · exact hm
theorem Gq_do {B : Bu} {nw sc ni U v a nm : Nat} (h : Gq B nw sc ni U) (hU : U + nm ≤ 1999999990) (ha : v ≠ 0 → a < sc) (hn : nm ≤ 100) : Gq (P_do nw sc ni v a (nI nm) B).2 nw sc ni (U + nm + 1) := by
  rcases h with h | ⟨rfl, rfl, rfl, h⟩
  · exact Or.inl (Gd_do h hU ha hn)
  · refine Or.inr ⟨rfl, rfl, rfl, ?_⟩
    have e : v = 0 := Decidable.byContradiction fun z => absurd (ha z) (Nat.not_lt_zero _)
    subst e
    unfold P_do
    rw [if_pos rfl]
    exact E0_pass _ _ h
/-- a script's commands from the i-th on -/
def P_run (nw sc ni : Nat) (S : Sq) : Nat → Nat → Bu → Nat × Bu
  | 0, i, B => (i, B)
  | d + 1, i, B => if (P_do nw sc ni (S.2.1 i).toNatClampNeg (S.2.2.1 i).toNatClampNeg (S.2.2.2 i) B).1 = true then P_run nw sc ni S d (i + 1) (P_do nw sc ni (S.2.1 i).toNatClampNeg (S.2.2.1 i).toNatClampNeg (S.2.2.2 i) B).2 else (i, (P_do nw sc ni (S.2.1 i).toNatClampNeg (S.2.2.1 i).toNatClampNeg (S.2.2.2 i) B).2)
theorem P_run_le {nw sc ni : Nat} {S : Sq} : ∀ (d i : Nat) (B : Bu), (P_run nw sc ni S d i B).1 ≤ i + d
  | 0, i, _ => Nat.le_refl i
  | d + 1, i, B => by
    rw [P_run]
    split
    · exact Nat.le_trans (P_run_le d (i + 1) _) (by omega)
    · show i ≤ i + (d + 1)
      omega
theorem d_MO_runVisit_0 : decode (mC m_MO_runVisit) 0 = .ok (.aload_n 0, 1) := by decide +kernel
theorem d_MO_runVisit_1 : decode (mC m_MO_runVisit) 1 = .ok (.iload_n 1, 1) := by decide +kernel
theorem d_MO_runVisit_2 : decode (mC m_MO_runVisit) 2 = .ok (.invokevirtual 115, 3) := by decide +kernel
theorem d_MO_runVisit_5 : decode (mC m_MO_runVisit) 5 = .ok (.ifCond .ne 5, 3) := by decide +kernel
theorem d_MO_runVisit_8 : decode (mC m_MO_runVisit) 8 = .ok (.iconst 0, 1) := by decide +kernel
theorem d_MO_runVisit_9 : decode (mC m_MO_runVisit) 9 = .ok (.ireturn, 1) := by decide +kernel
theorem d_MO_runVisit_10 : decode (mC m_MO_runVisit) 10 = .ok (.aload_n 0, 1) := by decide +kernel
theorem d_MO_runVisit_11 : decode (mC m_MO_runVisit) 11 = .ok (.iload_n 1, 1) := by decide +kernel
theorem d_MO_runVisit_12 : decode (mC m_MO_runVisit) 12 = .ok (.invokevirtual 142, 3) := by decide +kernel
theorem d_MO_runVisit_15 : decode (mC m_MO_runVisit) 15 = .ok (.pop, 1) := by decide +kernel
theorem d_MO_runVisit_16 : decode (mC m_MO_runVisit) 16 = .ok (.iconst 1, 1) := by decide +kernel
theorem d_MO_runVisit_17 : decode (mC m_MO_runVisit) 17 = .ok (.ireturn, 1) := by decide +kernel
theorem d_MO_runRepair_0 : decode (mC m_MO_runRepair) 0 = .ok (.aload_n 0, 1) := by decide +kernel
theorem d_MO_runRepair_1 : decode (mC m_MO_runRepair) 1 = .ok (.iload_n 1, 1) := by decide +kernel
theorem d_MO_runRepair_2 : decode (mC m_MO_runRepair) 2 = .ok (.invokevirtual 251, 3) := by decide +kernel
theorem d_MO_runRepair_5 : decode (mC m_MO_runRepair) 5 = .ok (.ifCond .ne 5, 3) := by decide +kernel
theorem d_MO_runRepair_8 : decode (mC m_MO_runRepair) 8 = .ok (.iconst 0, 1) := by decide +kernel
theorem d_MO_runRepair_9 : decode (mC m_MO_runRepair) 9 = .ok (.ireturn, 1) := by decide +kernel
theorem d_MO_runRepair_10 : decode (mC m_MO_runRepair) 10 = .ok (.aload_n 0, 1) := by decide +kernel
theorem d_MO_runRepair_11 : decode (mC m_MO_runRepair) 11 = .ok (.iload_n 1, 1) := by decide +kernel
theorem d_MO_runRepair_12 : decode (mC m_MO_runRepair) 12 = .ok (.invokevirtual 254, 3) := by decide +kernel
theorem d_MO_runRepair_15 : decode (mC m_MO_runRepair) 15 = .ok (.pop, 1) := by decide +kernel
theorem d_MO_runRepair_16 : decode (mC m_MO_runRepair) 16 = .ok (.iconst 1, 1) := by decide +kernel
theorem d_MO_runRepair_17 : decode (mC m_MO_runRepair) 17 = .ok (.ireturn, 1) := by decide +kernel
theorem d_MO_runComplain_0 : decode (mC m_MO_runComplain) 0 = .ok (.aload_n 0, 1) := by decide +kernel
theorem d_MO_runComplain_1 : decode (mC m_MO_runComplain) 1 = .ok (.iload_n 1, 1) := by decide +kernel
theorem d_MO_runComplain_2 : decode (mC m_MO_runComplain) 2 = .ok (.invokevirtual 115, 3) := by decide +kernel
theorem d_MO_runComplain_5 : decode (mC m_MO_runComplain) 5 = .ok (.ifCond .ne 5, 3) := by decide +kernel
theorem d_MO_runComplain_8 : decode (mC m_MO_runComplain) 8 = .ok (.iconst 0, 1) := by decide +kernel
theorem d_MO_runComplain_9 : decode (mC m_MO_runComplain) 9 = .ok (.ireturn, 1) := by decide +kernel
theorem d_MO_runComplain_10 : decode (mC m_MO_runComplain) 10 = .ok (.aload_n 0, 1) := by decide +kernel
theorem d_MO_runComplain_11 : decode (mC m_MO_runComplain) 11 = .ok (.iload_n 1, 1) := by decide +kernel
theorem d_MO_runComplain_12 : decode (mC m_MO_runComplain) 12 = .ok (.invokevirtual 257, 3) := by decide +kernel
theorem d_MO_runComplain_15 : decode (mC m_MO_runComplain) 15 = .ok (.pop, 1) := by decide +kernel
theorem d_MO_runComplain_16 : decode (mC m_MO_runComplain) 16 = .ok (.iconst 1, 1) := by decide +kernel
theorem d_MO_runComplain_17 : decode (mC m_MO_runComplain) 17 = .ok (.ireturn, 1) := by decide +kernel
theorem d_MO_runReopen_0 : decode (mC m_MO_runReopen) 0 = .ok (.aload_n 0, 1) := by decide +kernel
theorem d_MO_runReopen_1 : decode (mC m_MO_runReopen) 1 = .ok (.iload_n 1, 1) := by decide +kernel
theorem d_MO_runReopen_2 : decode (mC m_MO_runReopen) 2 = .ok (.invokevirtual 115, 3) := by decide +kernel
theorem d_MO_runReopen_5 : decode (mC m_MO_runReopen) 5 = .ok (.ifCond .eq 5, 3) := by decide +kernel
theorem d_MO_runReopen_8 : decode (mC m_MO_runReopen) 8 = .ok (.iconst 0, 1) := by decide +kernel
theorem d_MO_runReopen_9 : decode (mC m_MO_runReopen) 9 = .ok (.ireturn, 1) := by decide +kernel
theorem d_MO_runReopen_10 : decode (mC m_MO_runReopen) 10 = .ok (.aload_n 0, 1) := by decide +kernel
theorem d_MO_runReopen_11 : decode (mC m_MO_runReopen) 11 = .ok (.iload_n 1, 1) := by decide +kernel
theorem d_MO_runReopen_12 : decode (mC m_MO_runReopen) 12 = .ok (.invokevirtual 260, 3) := by decide +kernel
theorem d_MO_runReopen_15 : decode (mC m_MO_runReopen) 15 = .ok (.pop, 1) := by decide +kernel
theorem d_MO_runReopen_16 : decode (mC m_MO_runReopen) 16 = .ok (.iconst 1, 1) := by decide +kernel
theorem d_MO_runReopen_17 : decode (mC m_MO_runReopen) 17 = .ok (.ireturn, 1) := by decide +kernel
theorem d_MO_execute_0 : decode (mC m_MO_execute) 0 = .ok (.aload_n 0, 1) := by decide +kernel
theorem d_MO_execute_1 : decode (mC m_MO_execute) 1 = .ok (.getfield 28, 3) := by decide +kernel
theorem d_MO_execute_4 : decode (mC m_MO_execute) 4 = .ok (.iload_n 1, 1) := by decide +kernel
theorem d_MO_execute_5 : decode (mC m_MO_execute) 5 = .ok (.iconst 1, 1) := by decide +kernel
theorem d_MO_execute_6 : decode (mC m_MO_execute) 6 = .ok (.iadd, 1) := by decide +kernel
theorem d_MO_execute_7 : decode (mC m_MO_execute) 7 = .ok (.iaload, 1) := by decide +kernel
theorem d_MO_execute_8 : decode (mC m_MO_execute) 8 = .ok (.istore_n 2, 1) := by decide +kernel
theorem d_MO_execute_9 : decode (mC m_MO_execute) 9 = .ok (.aload_n 0, 1) := by decide +kernel
theorem d_MO_execute_10 : decode (mC m_MO_execute) 10 = .ok (.getfield 28, 3) := by decide +kernel
theorem d_MO_execute_13 : decode (mC m_MO_execute) 13 = .ok (.iload_n 1, 1) := by decide +kernel
theorem d_MO_execute_14 : decode (mC m_MO_execute) 14 = .ok (.iaload, 1) := by decide +kernel
theorem d_MO_execute_15 : decode (mC m_MO_execute) 15 = .ok (.tableswitch 74 4 8 #[33, 39, 57, 45, 51], 33) := by decide +kernel
theorem d_MO_execute_48 : decode (mC m_MO_execute) 48 = .ok (.aload_n 0, 1) := by decide +kernel
theorem d_MO_execute_49 : decode (mC m_MO_execute) 49 = .ok (.iload_n 2, 1) := by decide +kernel
theorem d_MO_execute_50 : decode (mC m_MO_execute) 50 = .ok (.invokevirtual 263, 3) := by decide +kernel
theorem d_MO_execute_53 : decode (mC m_MO_execute) 53 = .ok (.ireturn, 1) := by decide +kernel
theorem d_MO_execute_54 : decode (mC m_MO_execute) 54 = .ok (.aload_n 0, 1) := by decide +kernel
theorem d_MO_execute_55 : decode (mC m_MO_execute) 55 = .ok (.iload_n 2, 1) := by decide +kernel
theorem d_MO_execute_56 : decode (mC m_MO_execute) 56 = .ok (.invokevirtual 266, 3) := by decide +kernel
theorem d_MO_execute_59 : decode (mC m_MO_execute) 59 = .ok (.ireturn, 1) := by decide +kernel
theorem d_MO_execute_60 : decode (mC m_MO_execute) 60 = .ok (.aload_n 0, 1) := by decide +kernel
theorem d_MO_execute_61 : decode (mC m_MO_execute) 61 = .ok (.iload_n 2, 1) := by decide +kernel
theorem d_MO_execute_62 : decode (mC m_MO_execute) 62 = .ok (.invokevirtual 269, 3) := by decide +kernel
theorem d_MO_execute_65 : decode (mC m_MO_execute) 65 = .ok (.ireturn, 1) := by decide +kernel
theorem d_MO_execute_66 : decode (mC m_MO_execute) 66 = .ok (.aload_n 0, 1) := by decide +kernel
theorem d_MO_execute_67 : decode (mC m_MO_execute) 67 = .ok (.iload_n 2, 1) := by decide +kernel
theorem d_MO_execute_68 : decode (mC m_MO_execute) 68 = .ok (.invokevirtual 272, 3) := by decide +kernel
theorem d_MO_execute_71 : decode (mC m_MO_execute) 71 = .ok (.ireturn, 1) := by decide +kernel
theorem d_MO_execute_72 : decode (mC m_MO_execute) 72 = .ok (.aload_n 0, 1) := by decide +kernel
theorem d_MO_execute_73 : decode (mC m_MO_execute) 73 = .ok (.iload_n 2, 1) := by decide +kernel
theorem d_MO_execute_74 : decode (mC m_MO_execute) 74 = .ok (.bipush 6, 2) := by decide +kernel
theorem d_MO_execute_76 : decode (mC m_MO_execute) 76 = .ok (.aload_n 0, 1) := by decide +kernel
theorem d_MO_execute_77 : decode (mC m_MO_execute) 77 = .ok (.getfield 28, 3) := by decide +kernel
theorem d_MO_execute_80 : decode (mC m_MO_execute) 80 = .ok (.iload_n 1, 1) := by decide +kernel
theorem d_MO_execute_81 : decode (mC m_MO_execute) 81 = .ok (.iconst 2, 1) := by decide +kernel
theorem d_MO_execute_82 : decode (mC m_MO_execute) 82 = .ok (.iadd, 1) := by decide +kernel
theorem d_MO_execute_83 : decode (mC m_MO_execute) 83 = .ok (.iaload, 1) := by decide +kernel
theorem d_MO_execute_84 : decode (mC m_MO_execute) 84 = .ok (.invokevirtual 65, 3) := by decide +kernel
theorem d_MO_execute_87 : decode (mC m_MO_execute) 87 = .ok (.iconst 1, 1) := by decide +kernel
theorem d_MO_execute_88 : decode (mC m_MO_execute) 88 = .ok (.ireturn, 1) := by decide +kernel
theorem d_MO_execute_89 : decode (mC m_MO_execute) 89 = .ok (.aload_n 0, 1) := by decide +kernel
theorem d_MO_execute_90 : decode (mC m_MO_execute) 90 = .ok (.iload_n 2, 1) := by decide +kernel
theorem d_MO_execute_91 : decode (mC m_MO_execute) 91 = .ok (.invokevirtual 275, 3) := by decide +kernel
theorem d_MO_execute_94 : decode (mC m_MO_execute) 94 = .ok (.pop, 1) := by decide +kernel
theorem d_MO_execute_95 : decode (mC m_MO_execute) 95 = .ok (.iconst 1, 1) := by decide +kernel
theorem d_MO_execute_96 : decode (mC m_MO_execute) 96 = .ok (.ireturn, 1) := by decide +kernel
theorem d_MO_runScript_0 : decode (mC m_MO_runScript) 0 = .ok (.aload_n 0, 1) := by decide +kernel
theorem d_MO_runScript_1 : decode (mC m_MO_runScript) 1 = .ok (.iconst 0, 1) := by decide +kernel
theorem d_MO_runScript_2 : decode (mC m_MO_runScript) 2 = .ok (.putfield 52, 3) := by decide +kernel
theorem d_MO_runScript_5 : decode (mC m_MO_runScript) 5 = .ok (.aload_n 0, 1) := by decide +kernel
theorem d_MO_runScript_6 : decode (mC m_MO_runScript) 6 = .ok (.invokevirtual 278, 3) := by decide +kernel
theorem d_MO_runScript_9 : decode (mC m_MO_runScript) 9 = .ok (.istore_n 1, 1) := by decide +kernel
theorem d_MO_runScript_10 : decode (mC m_MO_runScript) 10 = .ok (.aload_n 0, 1) := by decide +kernel
theorem d_MO_runScript_11 : decode (mC m_MO_runScript) 11 = .ok (.iconst 0, 1) := by decide +kernel
theorem d_MO_runScript_12 : decode (mC m_MO_runScript) 12 = .ok (.putfield 151, 3) := by decide +kernel
theorem d_MO_runScript_15 : decode (mC m_MO_runScript) 15 = .ok (.aload_n 0, 1) := by decide +kernel
theorem d_MO_runScript_16 : decode (mC m_MO_runScript) 16 = .ok (.iload_n 1, 1) := by decide +kernel
theorem d_MO_runScript_17 : decode (mC m_MO_runScript) 17 = .ok (.iconst 1, 1) := by decide +kernel
theorem d_MO_runScript_18 : decode (mC m_MO_runScript) 18 = .ok (.invokevirtual 154, 3) := by decide +kernel
theorem d_MO_runScript_21 : decode (mC m_MO_runScript) 21 = .ok (.ifCond .eq 5, 3) := by decide +kernel
theorem d_MO_runScript_24 : decode (mC m_MO_runScript) 24 = .ok (.iconst 0, 1) := by decide +kernel
theorem d_MO_runScript_25 : decode (mC m_MO_runScript) 25 = .ok (.ireturn, 1) := by decide +kernel
theorem d_MO_runScript_26 : decode (mC m_MO_runScript) 26 = .ok (.aload_n 0, 1) := by decide +kernel
theorem d_MO_runScript_27 : decode (mC m_MO_runScript) 27 = .ok (.iconst 0, 1) := by decide +kernel
theorem d_MO_runScript_28 : decode (mC m_MO_runScript) 28 = .ok (.invokevirtual 239, 3) := by decide +kernel
theorem d_MO_runScript_31 : decode (mC m_MO_runScript) 31 = .ok (.iconst 0, 1) := by decide +kernel
theorem d_MO_runScript_32 : decode (mC m_MO_runScript) 32 = .ok (.istore_n 2, 1) := by decide +kernel
theorem d_MO_runScript_33 : decode (mC m_MO_runScript) 33 = .ok (.iload_n 2, 1) := by decide +kernel
theorem d_MO_runScript_34 : decode (mC m_MO_runScript) 34 = .ok (.aload_n 0, 1) := by decide +kernel
theorem d_MO_runScript_35 : decode (mC m_MO_runScript) 35 = .ok (.getfield 196, 3) := by decide +kernel
theorem d_MO_runScript_38 : decode (mC m_MO_runScript) 38 = .ok (.if_icmp .ge 21, 3) := by decide +kernel
theorem d_MO_runScript_41 : decode (mC m_MO_runScript) 41 = .ok (.aload_n 0, 1) := by decide +kernel
theorem d_MO_runScript_42 : decode (mC m_MO_runScript) 42 = .ok (.iconst 3, 1) := by decide +kernel
theorem d_MO_runScript_43 : decode (mC m_MO_runScript) 43 = .ok (.iload_n 2, 1) := by decide +kernel
theorem d_MO_runScript_44 : decode (mC m_MO_runScript) 44 = .ok (.imul, 1) := by decide +kernel
theorem d_MO_runScript_45 : decode (mC m_MO_runScript) 45 = .ok (.invokevirtual 281, 3) := by decide +kernel
theorem d_MO_runScript_48 : decode (mC m_MO_runScript) 48 = .ok (.ifCond .ne 5, 3) := by decide +kernel
theorem d_MO_runScript_51 : decode (mC m_MO_runScript) 51 = .ok (.iload_n 2, 1) := by decide +kernel
theorem d_MO_runScript_52 : decode (mC m_MO_runScript) 52 = .ok (.ireturn, 1) := by decide +kernel
theorem d_MO_runScript_53 : decode (mC m_MO_runScript) 53 = .ok (.iinc 2 1, 3) := by decide +kernel
theorem d_MO_runScript_56 : decode (mC m_MO_runScript) 56 = .ok (.goto (-23), 3) := by decide +kernel
theorem d_MO_runScript_59 : decode (mC m_MO_runScript) 59 = .ok (.aload_n 0, 1) := by decide +kernel
theorem d_MO_runScript_60 : decode (mC m_MO_runScript) 60 = .ok (.getfield 196, 3) := by decide +kernel
theorem d_MO_runScript_63 : decode (mC m_MO_runScript) 63 = .ok (.ireturn, 1) := by decide +kernel
set_option maxRecDepth 20000 in
theorem cm_MO_beginDay0 {E : En} {h : Hp} {m st : Nat} {c g : Nat → Int32} {B : Bu} {R : List (Nat × (Nat → Int32))} (hM : MoOk h m st) (nd : (m :: st :: R.map Prod.fst).Nodup) (hE : E0 B) : CR E m_MO_beginDay [.ref m] (wL h ((m, c) :: (st, enc 0 0 B g) :: R)) (none) (wL h ((m, c) :: (st, enc 0 0 (P_trade 0 (P_begin 0 B)) g) :: R)) := by
  refine ct_of rfl (by decide +kernel) (Nat.le_of_ble_eq_true rfl) ?_
  show G E m_MO_beginDay 0 [(0, .ref m)] [] (wL h ((m, c) :: (st, enc 0 0 B g) :: R)) 0 0 _ noX
  obtain ⟨k_m, r_m_0, k_st, l_st⟩ := id hM
  have n6 : 0 ≤ 6 := by omega
  have s8 : 0 ≤ 8 := by omega
  refine g_aload_n (pc := 0) d_MO_beginDay_0 rfl 0 rfl ?_
  refine g_getR (pc := 1) (ci := 7) (f := 0) (b := st) rfl r_m_0 d_MO_beginDay_1 fl_MO_7 (by decide) k_m ?_
  refine g_bipush (pc := 4) (v := 9) d_MO_beginDay_4 (by decide) ?_
  refine g_dup2 (pc := 6) d_MO_beginDay_6 rfl rfl ?_
  refine g_mI (pc := 7) (k := 9) d_MO_beginDay_7 k_st l_st (by decide) nd ?_
  refine g_iconst (pc := 8) (v := 1) d_MO_beginDay_8 (by decide) ?_
  refine g_iadd (pc := 9) d_MO_beginDay_9 ?_
  refine g_mIS (pc := 10) (k := 9) d_MO_beginDay_10 k_st l_st (by decide) nd ?_
  refine g_iconst (pc := 11) (v := 0) d_MO_beginDay_11 (by decide) ?_
  refine g_nameI (fun x_1 hx_1 => ?_)
  refine g_istore_n (pc := 12) (lv' := [(1, .int x_1), (0, .ref m)]) d_MO_beginDay_12 rfl (by decide) rfl ?_
  subst hx_1
  refine g_h (h' := wL h ((m, c) :: (st, enc 0 0 (P_drift 0 (sC B (u1 B.1 9 (B.1 9 + 1)))) g) :: R)) (by rw [P_drift_0]) ?_
  exact lp_MO_beginDay1 (nw := 0) (sc := 0) (B := (sC B (u1 B.1 9 (B.1 9 + 1)))) hM nd (by omega) (by omega) (by show u1 B.1 9 (B.1 9 + 1) 8 = nI 0; rw [u1_ne (by omega)]; exact hE.2.2) (fun i hi => absurd hi (Nat.not_lt_zero i)) 1 0 (Nat.zero_le _) (by omega)
set_option maxRecDepth 20000 in
theorem cm_MO_passOne0 {E : En} {h : Hp} {m st : Nat} {c g : Nat → Int32} {B : Bu} {R : List (Nat × (Nat → Int32))} (hM : MoOk h m st) (nd : (m :: st :: R.map Prod.fst).Nodup) (hE : E0 B) : CR E m_MO_passOne [.ref m] (wL h ((m, c) :: (st, enc 0 0 B g) :: R)) (none) (wL h ((m, c) :: (st, enc 0 0 (P_day 0 0 0 (0, B)).2 g) :: R)) := by
  refine ct_of rfl (by decide +kernel) (Nat.le_of_ble_eq_true rfl) ?_
  show G E m_MO_passOne 0 [(0, .ref m)] [] (wL h ((m, c) :: (st, enc 0 0 B g) :: R)) 0 0 _ noX
  obtain ⟨k_m, r_m_0, k_st, l_st⟩ := id hM
  have n6 : 0 ≤ 6 := by omega
  have s8 : 0 ≤ 8 := by omega
  refine g_aload_n (pc := 0) d_MO_passOne_0 rfl 0 rfl ?_
  refine g_cV0 (pc := 1) (ci := 7) (As := []) d_MO_passOne_1 rfl mv_MO_beginDay st_MO_passOne_136 rfl rfl (by decide) rfl rfl (Nat.le_of_ble_eq_true rfl) k_m (cm_MO_beginDay0 hM nd hE) ?_
  refine g_iconst (pc := 4) (v := 0) d_MO_passOne_4 (by decide) ?_
  refine g_istore_n (pc := 5) (lv' := [(1, .int (nI 0)), (0, .ref m)]) d_MO_passOne_5 rfl (by decide) rfl ?_
  refine g_iload_n (pc := 6) d_MO_passOne_6 rfl 0 rfl ?_
  refine g_aload_n (pc := 7) d_MO_passOne_7 rfl 1 rfl ?_
  refine g_getR (pc := 8) (ci := 7) (f := 0) (b := st) rfl r_m_0 d_MO_passOne_8 fl_MO_7 (by decide) k_m ?_
  refine g_iconst (pc := 11) (v := 5) d_MO_passOne_11 (by decide) ?_
  refine g_mI (pc := 12) (k := 5) d_MO_passOne_12 k_st l_st (by decide) nd ?_
  refine g_icmp_ge (pc := 13) (tgt := 37) d_MO_passOne_13 (by decide) (fun c_13 => ?_) (fun c_13 => ?_)
  · skip
    refine g_vret (pc := 37) d_MO_passOne_37 rfl ?_
    exact ⟨rfl, rfl⟩
  · exact absurd (by rw [(E0_begin hE).1]; decide) c_13
theorem lp_MO_passAll0 {E : En} {h : Hp} {m st : Nat} {c g : Nat → Int32} {R : List (Nat × (Nat → Int32))} {days : Nat} {v0 : Int32} (hM : MoOk h m st) (nd : (m :: st :: R.map Prod.fst).Nodup) (hU : days ≤ 2000000000) : ∀ (d j : Nat) (q : Nat × Bu), j ≤ days → E0 q.2 → days - j < d → G E m_MO_passAll 10 [(3, .int (nI j)), (2, .int v0), (0, .ref m), (1, .int (nI days))] [] (wL h ((m, c) :: (st, enc 0 0 q.2 g) :: R)) 0 0 (fun v1 h1 => v1 = some (.int ((P_pass 0 0 0 (days - j) q).2.1 11 - v0)) ∧ h1 = wL h ((m, c) :: (st, enc 0 0 (P_pass 0 0 0 (days - j) q).2 g) :: R)) noX := by
  obtain ⟨k_m, r_m_0, k_st, l_st⟩ := id hM
  have n6 : 0 ≤ 6 := by omega
  have s8 : 0 ≤ 8 := by omega
  intro d
  induction d with
  | zero => intros; omega
  | succ d ih =>
    intro j q hj hE hd
    obtain ⟨q1, B⟩ := q
    refine g_iload_n (pc := 10) d_MO_passAll_10 rfl 0 rfl ?_
    refine g_iload_n (pc := 11) d_MO_passAll_11 rfl 3 rfl ?_
    refine g_icmp_ge (pc := 12) (tgt := 25) d_MO_passAll_12 (by decide) (fun c_12 => ?_) (fun c_12 => ?_)
    · skip
      have e9 : j = days := by have := (nI_leI (by omega) (by omega)).mp c_12; omega
      refine g_aload_n (pc := 25) d_MO_passAll_25 rfl 2 rfl ?_
      refine g_getR (pc := 26) (ci := 7) (f := 0) (b := st) rfl r_m_0 d_MO_passAll_26 fl_MO_7 (by decide) k_m ?_
      refine g_bipush (pc := 29) (v := 11) d_MO_passAll_29 (by decide) ?_
      refine g_mI (pc := 31) (k := 11) d_MO_passAll_31 k_st l_st (by decide) nd ?_
      refine g_iload_n (pc := 32) d_MO_passAll_32 rfl 1 rfl ?_
      refine g_isub (pc := 33) d_MO_passAll_33 ?_
      refine g_iret (pc := 34) d_MO_passAll_34 rfl ?_
      rw [show days - j = 0 by omega]
      exact ⟨rfl, rfl⟩
    · skip
      have e9 : j < days := Nat.lt_of_not_le (fun z => c_12 ((nI_leI (by omega) (by omega)).mpr z))
      refine g_aload_n (pc := 15) d_MO_passAll_15 rfl 2 rfl ?_
      refine g_cV0 (pc := 16) (ci := 7) (As := []) d_MO_passAll_16 rfl mv_MO_passOne st_MO_passAll_145 rfl rfl (by decide) rfl rfl (Nat.le_of_ble_eq_true rfl) k_m (cm_MO_passOne0 hM nd hE) ?_
      obtain ⟨x_1, hx_1⟩ : ∃ y : Int32, y = (nI j) + 1 := ⟨_, rfl⟩
      refine g_iinc (pc := 19) (w := 0) (v := x_1) (lv' := [(3, .int x_1), (2, .int v0), (0, .ref m), (1, .int (nI days))]) d_MO_passAll_19 rfl (by rw [hx_1]; rfl) (by decide) rfl ?_
      refine g_goto (pc := 22) (tgt := 10) d_MO_passAll_22 (by decide) ?_
      have e8 : x_1 = nI (j + 1) := by rw [hx_1]; exact nI_1 _
      clear hx_1
      subst e8
      refine g_perm [0, 1, 2, 3] rfl ?_
      rw [show days - j = (days - (j + 1)) + 1 by omega]
      exact ih (j + 1) (P_day 0 0 0 (q1, B)) (by omega) (E0_day (q := (q1, B)) hE) (by omega)
set_option maxRecDepth 20000 in
theorem cm_MO_passAll0 {E : En} {h : Hp} {m st : Nat} {c g : Nat → Int32} {B : Bu} {R : List (Nat × (Nat → Int32))} {days : Nat} (hM : MoOk h m st) (nd : (m :: st :: R.map Prod.fst).Nodup) (hE : E0 B) (hU : days ≤ 2000000000) : CR E m_MO_passAll [.ref m, .int (nI days)] (wL h ((m, c) :: (st, enc 0 0 B g) :: R)) (some (.int (nI (P_pass 0 0 0 days (0, B)).1))) (wL h ((m, c) :: (st, enc 0 0 (P_pass 0 0 0 days (0, B)).2 g) :: R)) := by
  refine ct_of rfl (by decide +kernel) (Nat.le_of_ble_eq_true rfl) ?_
  show G E m_MO_passAll 0 [(0, .ref m), (1, .int (nI days))] [] (wL h ((m, c) :: (st, enc 0 0 B g) :: R)) 0 0 _ noX
  obtain ⟨k_m, r_m_0, k_st, l_st⟩ := id hM
  have n6 : 0 ≤ 6 := by omega
  have s8 : 0 ≤ 8 := by omega
  refine g_aload_n (pc := 0) d_MO_passAll_0 rfl 0 rfl ?_
  refine g_getR (pc := 1) (ci := 7) (f := 0) (b := st) rfl r_m_0 d_MO_passAll_1 fl_MO_7 (by decide) k_m ?_
  refine g_bipush (pc := 4) (v := 11) d_MO_passAll_4 (by decide) ?_
  refine g_mI (pc := 6) (k := 11) d_MO_passAll_6 k_st l_st (by decide) nd ?_
  refine g_istore_n (pc := 7) (lv' := [(2, .int (B.1 11)), (0, .ref m), (1, .int (nI days))]) d_MO_passAll_7 rfl (by decide) rfl ?_
  refine g_iconst (pc := 8) (v := 0) d_MO_passAll_8 (by decide) ?_
  refine g_nameI (fun x_1 hx_1 => ?_)
  refine g_istore_n (pc := 9) (lv' := [(3, .int x_1), (2, .int (B.1 11)), (0, .ref m), (1, .int (nI days))]) d_MO_passAll_9 rfl (by decide) rfl ?_
  subst hx_1
  rw [← v_pass0 0 0 0 days B]
  exact lp_MO_passAll0 hM nd hU (days + 1) 0 (0, B) (Nat.zero_le _) hE (by omega)
theorem cm_MO_passAllq {E : En} {h : Hp} {m st nw sc : Nat} {c g : Nat → Int32} {B : Bu} {R : List (Nat × (Nat → Int32))} {ni U days : Nat} (hM : MoOk h m st) (nd : (m :: st :: R.map Prod.fst).Nodup) (hG : Gq B nw sc ni U) (hU : U + days ≤ 2000000000) : CR E m_MO_passAll [.ref m, .int (nI days)] (wL h ((m, c) :: (st, enc nw sc B g) :: R)) (some (.int (nI (P_pass nw sc ni days (0, B)).1))) (wL h ((m, c) :: (st, enc nw sc (P_pass nw sc ni days (0, B)).2 g) :: R)) := by
  rcases hG with hG | ⟨rfl, rfl, rfl, hE⟩
  · exact cm_MO_passAll hM nd hG hU
  · exact cm_MO_passAll0 hM nd hE (by omega)
set_option maxRecDepth 20000 in
theorem cm_MO_runVisit {E : En} {h : Hp} {m st nw sc : Nat} {c g : Nat → Int32} {B : Bu} {R : List (Nat × (Nat → Int32))} {ni U i : Nat} {num : Int32} (hM : MoOk h m st) (nd : (m :: st :: R.map Prod.fst).Nodup) (hG : Gd B nw sc ni U) (hi : i < sc) : CR E m_MO_runVisit [.ref m, .int (nI i)] (wL h ((m, c) :: (st, enc nw sc B g) :: R)) (some (.int (bI (P_do nw sc ni 1 i num B).1))) (wL h ((m, c) :: (st, enc nw sc (P_do nw sc ni 1 i num B).2 g) :: R)) := by
  refine ct_of rfl (by decide +kernel) (Nat.le_of_ble_eq_true rfl) ?_
  show G E m_MO_runVisit 0 [(0, .ref m), (1, .int (nI i))] [] (wL h ((m, c) :: (st, enc nw sc B g) :: R)) 0 0 _ noX
  obtain ⟨k_m, r_m_0, k_st, l_st⟩ := id hM
  obtain ⟨hw, n6, hs, s8, h0, hni, n3, ⟨sd, hsd, hsx⟩, hop⟩ := id hG.1
  refine g_aload_n (pc := 0) d_MO_runVisit_0 rfl 0 rfl ?_
  refine g_iload_n (pc := 1) d_MO_runVisit_1 rfl 1 rfl ?_
  refine g_cV1 (pc := 2) (ci := 7) (As := [.int _]) d_MO_runVisit_2 rfl mv_MO_isOpenShop st_MO_runVisit_115 rfl rfl (by decide) rfl rfl (Nat.le_of_ble_eq_true rfl) k_m (cm_MO_isOpenShop hM nd n6 s8 hi (hop i hi)) ?_
  refine g_if_ne (pc := 5) (tgt := 10) d_MO_runVisit_5 (by decide) (fun c_5 => ?_) (fun c_5 => ?_)
  · skip
    have y1 : ¬ B.2.2 i 12 = 0 := of_decide_eq_true (bI_n0 c_5)
    refine g_aload_n (pc := 10) d_MO_runVisit_10 rfl 0 rfl ?_
    refine g_iload_n (pc := 11) d_MO_runVisit_11 rfl 1 rfl ?_
    refine g_cV1 (pc := 12) (ci := 7) (As := [.int _]) d_MO_runVisit_12 rfl mv_MO_visitNow st_MO_runVisit_142 rfl rfl (by decide) rfl rfl (Nat.le_of_ble_eq_true rfl) k_m (cm_MO_visitNow hM nd n6 s8 hi hw (hG.tot hi)) ?_
    refine g_pop (pc := 15) d_MO_runVisit_15 rfl ?_
    refine g_iconst (pc := 16) (v := 1) d_MO_runVisit_16 (by decide) ?_
    refine g_zret (pc := 17) d_MO_runVisit_17 rfl (by first | rfl | exact nar_bI _) ?_
    have ey : P_do nw sc ni 1 i num B = (if B.2.2 i 12 = 0 then (false, B) else (true, P_ins B i nw)) := rfl
    rw [ey, if_neg y1]
    exact ⟨rfl, rfl⟩
  · skip
    have y1 : B.2.2 i 12 = 0 := Decidable.not_not.mp (of_decide_eq_false (bI_0.mp c_5))
    refine g_iconst (pc := 8) (v := 0) d_MO_runVisit_8 (by decide) ?_
    refine g_zret (pc := 9) d_MO_runVisit_9 rfl (by first | rfl | exact nar_bI _) ?_
    have ey : P_do nw sc ni 1 i num B = (if B.2.2 i 12 = 0 then (false, B) else (true, P_ins B i nw)) := rfl
    rw [ey, if_pos y1]
    exact ⟨rfl, rfl⟩
set_option maxRecDepth 20000 in
theorem cm_MO_runRepair {E : En} {h : Hp} {m st nw sc : Nat} {c g : Nat → Int32} {B : Bu} {R : List (Nat × (Nat → Int32))} {ni U i : Nat} {num : Int32} (hM : MoOk h m st) (nd : (m :: st :: R.map Prod.fst).Nodup) (hG : Gd B nw sc ni U) (hi : i < sc) : CR E m_MO_runRepair [.ref m, .int (nI i)] (wL h ((m, c) :: (st, enc nw sc B g) :: R)) (some (.int (bI (P_do nw sc ni 2 i num B).1))) (wL h ((m, c) :: (st, enc nw sc (P_do nw sc ni 2 i num B).2 g) :: R)) := by
  refine ct_of rfl (by decide +kernel) (Nat.le_of_ble_eq_true rfl) ?_
  show G E m_MO_runRepair 0 [(0, .ref m), (1, .int (nI i))] [] (wL h ((m, c) :: (st, enc nw sc B g) :: R)) 0 0 _ noX
  obtain ⟨k_m, r_m_0, k_st, l_st⟩ := id hM
  obtain ⟨hw, n6, hs, s8, h0, hni, n3, ⟨sd, hsd, hsx⟩, hop⟩ := id hG.1
  refine g_aload_n (pc := 0) d_MO_runRepair_0 rfl 0 rfl ?_
  refine g_iload_n (pc := 1) d_MO_runRepair_1 rfl 1 rfl ?_
  refine g_cV1 (pc := 2) (ci := 7) (As := [.int _]) d_MO_runRepair_2 rfl mv_MO_canRepair st_MO_runRepair_251 rfl rfl (by decide) rfl rfl (Nat.le_of_ble_eq_true rfl) k_m (cm_MO_canRepair hM nd hG hi) ?_
  refine g_if_ne (pc := 5) (tgt := 10) d_MO_runRepair_5 (by decide) (fun c_5 => ?_) (fun c_5 => ?_)
  · skip
    have y1 : M_canPay (B.2.2 i) = true := bI_n0 c_5
    refine g_aload_n (pc := 10) d_MO_runRepair_10 rfl 0 rfl ?_
    refine g_iload_n (pc := 11) d_MO_runRepair_11 rfl 1 rfl ?_
    refine g_cV1 (pc := 12) (ci := 7) (As := [.int _]) d_MO_runRepair_12 rfl mv_MO_repairNow st_MO_runRepair_254 rfl rfl (by decide) rfl rfl (Nat.le_of_ble_eq_true rfl) k_m (cm_MO_repairNow hM nd n6 s8 hi) ?_
    refine g_pop (pc := 15) d_MO_runRepair_15 rfl ?_
    refine g_iconst (pc := 16) (v := 1) d_MO_runRepair_16 (by decide) ?_
    refine g_zret (pc := 17) d_MO_runRepair_17 rfl (by first | rfl | exact nar_bI _) ?_
    have ey : P_do nw sc ni 2 i num B = (if M_canPay (B.2.2 i) = true then (true, P_repair B i) else (false, B)) := rfl
    rw [ey, if_pos y1]
    exact ⟨rfl, rfl⟩
  · skip
    have y1 : ¬ M_canPay (B.2.2 i) = true := by rw [bI_0.mp c_5]; decide
    refine g_iconst (pc := 8) (v := 0) d_MO_runRepair_8 (by decide) ?_
    refine g_zret (pc := 9) d_MO_runRepair_9 rfl (by first | rfl | exact nar_bI _) ?_
    have ey : P_do nw sc ni 2 i num B = (if M_canPay (B.2.2 i) = true then (true, P_repair B i) else (false, B)) := rfl
    rw [ey, if_neg y1]
    exact ⟨rfl, rfl⟩
set_option maxRecDepth 20000 in
theorem cm_MO_runComplain {E : En} {h : Hp} {m st nw sc : Nat} {c g : Nat → Int32} {B : Bu} {R : List (Nat × (Nat → Int32))} {ni U i : Nat} {num : Int32} (hM : MoOk h m st) (nd : (m :: st :: R.map Prod.fst).Nodup) (hG : Gd B nw sc ni U) (hi : i < sc) : CR E m_MO_runComplain [.ref m, .int (nI i)] (wL h ((m, c) :: (st, enc nw sc B g) :: R)) (some (.int (bI (P_do nw sc ni 4 i num B).1))) (wL h ((m, c) :: (st, enc nw sc (P_do nw sc ni 4 i num B).2 g) :: R)) := by
  refine ct_of rfl (by decide +kernel) (Nat.le_of_ble_eq_true rfl) ?_
  show G E m_MO_runComplain 0 [(0, .ref m), (1, .int (nI i))] [] (wL h ((m, c) :: (st, enc nw sc B g) :: R)) 0 0 _ noX
  obtain ⟨k_m, r_m_0, k_st, l_st⟩ := id hM
  obtain ⟨hw, n6, hs, s8, h0, hni, n3, ⟨sd, hsd, hsx⟩, hop⟩ := id hG.1
  refine g_aload_n (pc := 0) d_MO_runComplain_0 rfl 0 rfl ?_
  refine g_iload_n (pc := 1) d_MO_runComplain_1 rfl 1 rfl ?_
  refine g_cV1 (pc := 2) (ci := 7) (As := [.int _]) d_MO_runComplain_2 rfl mv_MO_isOpenShop st_MO_runComplain_115 rfl rfl (by decide) rfl rfl (Nat.le_of_ble_eq_true rfl) k_m (cm_MO_isOpenShop hM nd n6 s8 hi (hop i hi)) ?_
  refine g_if_ne (pc := 5) (tgt := 10) d_MO_runComplain_5 (by decide) (fun c_5 => ?_) (fun c_5 => ?_)
  · skip
    have y1 : ¬ B.2.2 i 12 = 0 := of_decide_eq_true (bI_n0 c_5)
    refine g_aload_n (pc := 10) d_MO_runComplain_10 rfl 0 rfl ?_
    refine g_iload_n (pc := 11) d_MO_runComplain_11 rfl 1 rfl ?_
    refine g_cV1 (pc := 12) (ci := 7) (As := [.int _]) d_MO_runComplain_12 rfl mv_MO_complainNow st_MO_runComplain_257 rfl rfl (by decide) rfl rfl (Nat.le_of_ble_eq_true rfl) k_m (cm_MO_complainNow hM nd n6 s8 hi) ?_
    refine g_pop (pc := 15) d_MO_runComplain_15 rfl ?_
    refine g_iconst (pc := 16) (v := 1) d_MO_runComplain_16 (by decide) ?_
    refine g_zret (pc := 17) d_MO_runComplain_17 rfl (by first | rfl | exact nar_bI _) ?_
    have ey : P_do nw sc ni 4 i num B = (if B.2.2 i 12 = 0 then (false, B) else (true, sS B i (u1 (B.2.2 i) 8 (B.2.2 i 8 + 1)))) := rfl
    rw [ey, if_neg y1]
    exact ⟨rfl, rfl⟩
  · skip
    have y1 : B.2.2 i 12 = 0 := Decidable.not_not.mp (of_decide_eq_false (bI_0.mp c_5))
    refine g_iconst (pc := 8) (v := 0) d_MO_runComplain_8 (by decide) ?_
    refine g_zret (pc := 9) d_MO_runComplain_9 rfl (by first | rfl | exact nar_bI _) ?_
    have ey : P_do nw sc ni 4 i num B = (if B.2.2 i 12 = 0 then (false, B) else (true, sS B i (u1 (B.2.2 i) 8 (B.2.2 i 8 + 1)))) := rfl
    rw [ey, if_pos y1]
    exact ⟨rfl, rfl⟩
set_option maxRecDepth 20000 in
theorem cm_MO_runReopen {E : En} {h : Hp} {m st nw sc : Nat} {c g : Nat → Int32} {B : Bu} {R : List (Nat × (Nat → Int32))} {ni U i : Nat} {num : Int32} (hM : MoOk h m st) (nd : (m :: st :: R.map Prod.fst).Nodup) (hG : Gd B nw sc ni U) (hi : i < sc) : CR E m_MO_runReopen [.ref m, .int (nI i)] (wL h ((m, c) :: (st, enc nw sc B g) :: R)) (some (.int (bI (P_do nw sc ni 5 i num B).1))) (wL h ((m, c) :: (st, enc nw sc (P_do nw sc ni 5 i num B).2 g) :: R)) := by
  refine ct_of rfl (by decide +kernel) (Nat.le_of_ble_eq_true rfl) ?_
  show G E m_MO_runReopen 0 [(0, .ref m), (1, .int (nI i))] [] (wL h ((m, c) :: (st, enc nw sc B g) :: R)) 0 0 _ noX
  obtain ⟨k_m, r_m_0, k_st, l_st⟩ := id hM
  obtain ⟨hw, n6, hs, s8, h0, hni, n3, ⟨sd, hsd, hsx⟩, hop⟩ := id hG.1
  refine g_aload_n (pc := 0) d_MO_runReopen_0 rfl 0 rfl ?_
  refine g_iload_n (pc := 1) d_MO_runReopen_1 rfl 1 rfl ?_
  refine g_cV1 (pc := 2) (ci := 7) (As := [.int _]) d_MO_runReopen_2 rfl mv_MO_isOpenShop st_MO_runReopen_115 rfl rfl (by decide) rfl rfl (Nat.le_of_ble_eq_true rfl) k_m (cm_MO_isOpenShop hM nd n6 s8 hi (hop i hi)) ?_
  refine g_if_eq (pc := 5) (tgt := 10) d_MO_runReopen_5 (by decide) (fun c_5 => ?_) (fun c_5 => ?_)
  · skip
    have y1 : B.2.2 i 12 = 0 := Decidable.not_not.mp (of_decide_eq_false (bI_0.mp c_5))
    refine g_aload_n (pc := 10) d_MO_runReopen_10 rfl 0 rfl ?_
    refine g_iload_n (pc := 11) d_MO_runReopen_11 rfl 1 rfl ?_
    refine g_cV1 (pc := 12) (ci := 7) (As := [.int _]) d_MO_runReopen_12 rfl mv_MO_reopenNow st_MO_runReopen_260 rfl rfl (by decide) rfl rfl (Nat.le_of_ble_eq_true rfl) k_m (cm_MO_reopenNow hM nd hG hi) ?_
    refine g_pop (pc := 15) d_MO_runReopen_15 rfl ?_
    refine g_iconst (pc := 16) (v := 1) d_MO_runReopen_16 (by decide) ?_
    refine g_zret (pc := 17) d_MO_runReopen_17 rfl (by first | rfl | exact nar_bI _) ?_
    have ey : P_do nw sc ni 5 i num B = (if B.2.2 i 12 = 0 then (true, sS B i (M_open (B.2.2 i))) else (false, B)) := rfl
    rw [ey, if_pos y1]
    exact ⟨rfl, rfl⟩
  · skip
    have y1 : ¬ B.2.2 i 12 = 0 := of_decide_eq_true (bI_n0 c_5)
    refine g_iconst (pc := 8) (v := 0) d_MO_runReopen_8 (by decide) ?_
    refine g_zret (pc := 9) d_MO_runReopen_9 rfl (by first | rfl | exact nar_bI _) ?_
    have ey : P_do nw sc ni 5 i num B = (if B.2.2 i 12 = 0 then (true, sS B i (M_open (B.2.2 i))) else (false, B)) := rfl
    rw [ey, if_neg y1]
    exact ⟨rfl, rfl⟩
set_option maxRecDepth 20000 in
theorem cm_MO_execute {E : En} {h : Hp} {m st mi nu co wd nw sc ni U p v a nm : Nat} {c g Ti N K : Nat → Int32} {B : Bu} {R : List (Nat × (Nat → Int32))} (hM : MpOk h m st mi nu co wd) (nd : (m :: st :: mi :: nu :: co :: wd :: R.map Prod.fst).Nodup) (hG : Gq B nw sc ni U) (hU : U + nm ≤ 1999999990) (hp : p + 2 < 60) (h6 : v < 6) (ha : v ≠ 0 → a < sc) (hn : nm ≤ 100) (e0 : K p = nI (v + 3)) (e1 : K (p + 1) = nI (if v = 0 then nm else a)) (e2 : v = 3 → K (p + 2) = nI nm) : CR E m_MO_execute [.ref m, .int (nI p)] (wL h ((m, c) :: (st, (enc nw sc B g)) :: (mi, Ti) :: (nu, N) :: (co, K) :: (wd, wdR) :: R)) (some (.int (bI (P_do nw sc ni v a (nI nm) B).1))) (wL h ((m, c) :: (st, (enc nw sc (P_do nw sc ni v a (nI nm) B).2 g)) :: (mi, Ti) :: (nu, N) :: (co, K) :: (wd, wdR) :: R)) := by
  refine ct_of rfl (by decide +kernel) (Nat.le_of_ble_eq_true rfl) ?_
  show G E m_MO_execute 0 [(0, .ref m), (1, .int (nI p))] [] (wL h ((m, c) :: (st, (enc nw sc B g)) :: (mi, Ti) :: (nu, N) :: (co, K) :: (wd, wdR) :: R)) 0 0 _ noX
  obtain ⟨k_m, r_m_0, k_st, l_st, r_m_4, k_mi, l_mi, r_m_12, k_nu, l_nu, r_m_13, k_co, l_co, r_m_18, k_wd, l_wd⟩ := id hM
  refine g_aload_n (pc := 0) d_MO_execute_0 rfl 0 rfl ?_
  refine g_getR (pc := 1) (ci := 7) (f := 13) (b := co) rfl r_m_13 d_MO_execute_1 fl_MO_28 (by decide) k_m ?_
  refine g_iload_n (pc := 4) d_MO_execute_4 rfl 1 rfl ?_
  refine g_iconst (pc := 5) (v := 1) d_MO_execute_5 (by decide) ?_
  refine g_iadd (pc := 6) d_MO_execute_6 ?_
  refine g_top (y := nI (p + 1)) (nI_1 p) ?_
  refine g_lia4 (pc := 7) (j := (p + 1)) d_MO_execute_7 k_co l_co (by first | assumption | omega | decide) (by decide) nd ?_
  rw [e1]
  refine g_istore_n (pc := 8) (lv' := [(2, .int (nI (if v = 0 then nm else a))), (0, .ref m), (1, .int (nI p))]) d_MO_execute_8 rfl (by decide) rfl ?_
  refine g_aload_n (pc := 9) d_MO_execute_9 rfl 1 rfl ?_
  refine g_getR (pc := 10) (ci := 7) (f := 13) (b := co) rfl r_m_13 d_MO_execute_10 fl_MO_28 (by decide) k_m ?_
  refine g_iload_n (pc := 13) d_MO_execute_13 rfl 2 rfl ?_
  refine g_lia4 (pc := 14) (j := p) d_MO_execute_14 k_co l_co (by first | assumption | omega | decide) (by decide) nd ?_
  rw [e0]
  rcases (show v = 0 ∨ v = 1 ∨ v = 2 ∨ v = 3 ∨ v = 4 ∨ v = 5 by omega) with rfl | rfl | rfl | rfl | rfl | rfl
  · skip
    refine g_tableOut (pc := 15) (tgt := 89) d_MO_execute_15 (by decide) (by decide) ?_
    rw [if_pos rfl]
    refine g_aload_n (pc := 89) d_MO_execute_89 rfl 1 rfl ?_
    refine g_iload_n (pc := 90) d_MO_execute_90 rfl 0 rfl ?_
    refine g_cV1 (pc := 91) (ci := 7) (As := [.int _]) d_MO_execute_91 rfl mv_MO_passAll st_MO_execute_275 rfl rfl (by decide) rfl rfl (Nat.le_of_ble_eq_true rfl) k_m (cm_MO_passAllq hM.mo nd hG (by omega)) ?_
    refine g_pop (pc := 94) d_MO_execute_94 rfl ?_
    refine g_iconst (pc := 95) (v := 1) d_MO_execute_95 (by decide) ?_
    refine g_zret (pc := 96) d_MO_execute_96 rfl (by first | rfl | exact nar_bI _) ?_
    have ey : P_do nw sc ni 0 a (nI nm) B = (true, (P_pass nw sc ni (nI nm).toNatClampNeg (0, B)).2) := rfl
    rw [ey, nI_clamp (by omega)]
    exact ⟨rfl, rfl⟩
  · skip
    have ha0 := ha (by decide)
    have hGd := hG.gd ha0
    refine g_tableIn (pc := 15) (tgt := 48) d_MO_execute_15 (by decide) (by decide) rfl (by decide) ?_
    refine g_aload_n (pc := 48) d_MO_execute_48 rfl 1 rfl ?_
    refine g_iload_n (pc := 49) d_MO_execute_49 rfl 0 rfl ?_
    refine g_cV1 (pc := 50) (ci := 7) (As := [.int _]) d_MO_execute_50 rfl mv_MO_runVisit st_MO_execute_263 rfl rfl (by decide) rfl rfl (Nat.le_of_ble_eq_true rfl) k_m (cm_MO_runVisit (num := nI nm) hM.mo nd hGd ha0) ?_
    refine g_zret (pc := 53) d_MO_execute_53 rfl (by first | rfl | exact nar_bI _) ?_
    exact ⟨rfl, rfl⟩
  · skip
    have ha0 := ha (by decide)
    have hGd := hG.gd ha0
    refine g_tableIn (pc := 15) (tgt := 54) d_MO_execute_15 (by decide) (by decide) rfl (by decide) ?_
    refine g_aload_n (pc := 54) d_MO_execute_54 rfl 1 rfl ?_
    refine g_iload_n (pc := 55) d_MO_execute_55 rfl 0 rfl ?_
    refine g_cV1 (pc := 56) (ci := 7) (As := [.int _]) d_MO_execute_56 rfl mv_MO_runRepair st_MO_execute_266 rfl rfl (by decide) rfl rfl (Nat.le_of_ble_eq_true rfl) k_m (cm_MO_runRepair (num := nI nm) hM.mo nd hGd ha0) ?_
    refine g_zret (pc := 59) d_MO_execute_59 rfl (by first | rfl | exact nar_bI _) ?_
    exact ⟨rfl, rfl⟩
  · skip
    have ha0 := ha (by decide)
    have hGd := hG.gd ha0
    refine g_tableIn (pc := 15) (tgt := 72) d_MO_execute_15 (by decide) (by decide) rfl (by decide) ?_
    refine g_aload_n (pc := 72) d_MO_execute_72 rfl 1 rfl ?_
    refine g_iload_n (pc := 73) d_MO_execute_73 rfl 0 rfl ?_
    refine g_bipush (pc := 74) (v := 6) d_MO_execute_74 (by decide) ?_
    refine g_aload_n (pc := 76) d_MO_execute_76 rfl 1 rfl ?_
    refine g_getR (pc := 77) (ci := 7) (f := 13) (b := co) rfl r_m_13 d_MO_execute_77 fl_MO_28 (by decide) k_m ?_
    refine g_iload_n (pc := 80) d_MO_execute_80 rfl 2 rfl ?_
    refine g_iconst (pc := 81) (v := 2) d_MO_execute_81 (by decide) ?_
    refine g_iadd (pc := 82) d_MO_execute_82 ?_
    refine g_top (y := nI (p + 2)) (nI_add p 2) ?_
    refine g_lia4 (pc := 83) (j := (p + 2)) d_MO_execute_83 k_co l_co (by first | assumption | omega | decide) (by decide) nd ?_
    rw [e2 rfl]
    refine g_cV0 (pc := 84) (ci := 7) (As := [.int _, .int _, .int _]) d_MO_execute_84 rfl mv_MO_put st_MO_execute_65 rfl rfl (by decide) rfl rfl (Nat.le_of_ble_eq_true rfl) k_m (cm_MO_put (k := 6) hM.mo nd hG.n6 hG.s8 ha0 (by omega)) ?_
    refine g_iconst (pc := 87) (v := 1) d_MO_execute_87 (by decide) ?_
    refine g_zret (pc := 88) d_MO_execute_88 rfl (by first | rfl | exact nar_bI _) ?_
    exact ⟨rfl, rfl⟩
  · skip
    have ha0 := ha (by decide)
    have hGd := hG.gd ha0
    refine g_tableIn (pc := 15) (tgt := 60) d_MO_execute_15 (by decide) (by decide) rfl (by decide) ?_
    refine g_aload_n (pc := 60) d_MO_execute_60 rfl 1 rfl ?_
    refine g_iload_n (pc := 61) d_MO_execute_61 rfl 0 rfl ?_
    refine g_cV1 (pc := 62) (ci := 7) (As := [.int _]) d_MO_execute_62 rfl mv_MO_runComplain st_MO_execute_269 rfl rfl (by decide) rfl rfl (Nat.le_of_ble_eq_true rfl) k_m (cm_MO_runComplain (num := nI nm) hM.mo nd hGd ha0) ?_
    refine g_zret (pc := 65) d_MO_execute_65 rfl (by first | rfl | exact nar_bI _) ?_
    exact ⟨rfl, rfl⟩
  · skip
    have ha0 := ha (by decide)
    have hGd := hG.gd ha0
    refine g_tableIn (pc := 15) (tgt := 66) d_MO_execute_15 (by decide) (by decide) rfl (by decide) ?_
    refine g_aload_n (pc := 66) d_MO_execute_66 rfl 1 rfl ?_
    refine g_iload_n (pc := 67) d_MO_execute_67 rfl 0 rfl ?_
    refine g_cV1 (pc := 68) (ci := 7) (As := [.int _]) d_MO_execute_68 rfl mv_MO_runReopen st_MO_execute_272 rfl rfl (by decide) rfl rfl (Nat.le_of_ble_eq_true rfl) k_m (cm_MO_runReopen (num := nI nm) hM.mo nd hGd ha0) ?_
    refine g_zret (pc := 71) d_MO_execute_71 rfl (by first | rfl | exact nar_bI _) ?_
    exact ⟨rfl, rfl⟩
/-- what a script holds -/
def SqOk (sc : Nat) (S : Sq) : Prop := ∀ i, i < S.1 → ∃ v a nm : Nat, v < 6 ∧ S.2.1 i = nI v ∧ S.2.2.1 i = nI a ∧ S.2.2.2 i = nI nm ∧ nm ≤ 100 ∧ (v = 0 → a = 0) ∧ (v ≠ 0 → a < sc)
theorem P_arg {v a sc : Nat} (h0 : v = 0 → a = 0) (h1 : v ≠ 0 → a < sc) (s8 : sc ≤ 8) : a < 8 := by
  by_cases e : v = 0
  · rw [h0 e]; omega
  · have := h1 e; omega
theorem P_run_S {nw sc ni d i v a nm : Nat} {S : Sq} {B : Bu} (z1 : S.2.1 i = nI v) (z2 : S.2.2.1 i = nI a) (z3 : S.2.2.2 i = nI nm) (h6 : v < 6) (ha : a < 8) : P_run nw sc ni S (d + 1) i B = if (P_do nw sc ni v a (nI nm) B).1 = true then P_run nw sc ni S d (i + 1) (P_do nw sc ni v a (nI nm) B).2 else (i, (P_do nw sc ni v a (nI nm) B).2) := by
  rw [P_run, z1, z2, z3, nI_clamp (by omega), nI_clamp (by omega)]
theorem Gq.mono {B : Bu} {nw sc ni U V : Nat} (h : Gq B nw sc ni U) (hV : U ≤ V) : Gq B nw sc ni V := h.elim (fun z => Or.inl (z.mono hV)) Or.inr
theorem Gq_run {nw sc ni : Nat} {S : Sq} (hS : SqOk sc S) : ∀ (d i U : Nat) (B : Bu), i + d = S.1 → Gq B nw sc ni U → U + 101 * d ≤ 1999999000 → Gq (P_run nw sc ni S d i B).2 nw sc ni (U + 101 * d)
  | 0, _, _, _, _, h, _ => h
  | d + 1, i, U, B, hd, h, hU => by
    obtain ⟨v, a, nm, h6, z1, z2, z3, hn, ha0, ha⟩ := hS i (by omega)
    rw [P_run_S z1 z2 z3 h6 (P_arg ha0 ha h.s8)]
    have h2 := Gq_do h (by omega) ha hn
    split
    · exact (Gq_run hS d (i + 1) (U + nm + 1) _ (by omega) h2 (by omega)).mono (by omega)
    · exact h2.mono (by omega)
theorem SqOk_add {sc v a nm : Nat} {S : Sq} (h : SqOk sc S) (h20 : S.1 < 20) (h6 : v < 6) (hn : nm ≤ 100) (ha : v = 0 → a = 0) (hb : v ≠ 0 → a < sc) : SqOk sc (Y_add S (nI v) (nI a) (nI nm)) := by
  intro i hi
  unfold Y_add at hi ⊢
  rw [if_pos h20] at hi ⊢
  by_cases e : i = S.1
  · subst e
    exact ⟨v, a, nm, h6, u1_same _ _ _, u1_same _ _ _, u1_same _ _ _, hn, ha, hb⟩
  · have hi2 : i < S.1 := by have : i < S.1 + 1 := hi; omega
    obtain ⟨v', a', n', z1, z2, z3, z4, z5, z6, z7⟩ := h i hi2
    exact ⟨v', a', n', z1, by show u1 S.2.1 S.1 (nI v) i = _; rw [u1_ne e]; exact z2, by show u1 S.2.2.1 S.1 (nI a) i = _; rw [u1_ne e]; exact z3, by show u1 S.2.2.2 S.1 (nI nm) i = _; rw [u1_ne e]; exact z4, z5, z6, z7⟩
theorem Y_verb_dec (T : Nat → Int32) (t : Tk) : (∃ v, v < 6 ∧ Y_verb T t = nI v) ∨ Y_verb T t = -1 := by
  by_cases h : Z_word T t 9 0 < 3 ∨ 8 < Z_word T t 9 0
  · exact Or.inr (Y_verb_z.2 h)
  · exact Or.inl ⟨Z_word T t 9 0 - 3, by omega, Y_verb_z.1 _ (by omega) (by omega)⟩
theorem SqOk_cmd {T : Nat → Int32} {n sc : Nat} {q : Ps} {S : Sq} (s8 : sc ≤ 8) (h : SqOk sc S) (h20 : S.1 < 20) (hy : (Y_cmd T n (nI sc) q S).1 = true) : SqOk sc (Y_cmd T n (nI sc) q S).2.2 ∧ (Y_cmd T n (nI sc) q S).2.2.1 = S.1 + 1 := by
  rcases Y_verb_dec T q.1 with ⟨v, h6, hv⟩ | hv
  · have ey := Y_cmd_rs (n := n) (c := nI sc) (S := S) (N := fun _ => 0) hv h6
    rw [ey] at hy ⊢
    split at hy
    · next h1 =>
      rw [if_pos h1]
      obtain ⟨a, nm, r1, r2, r3, r4, r5, -, -⟩ := Y_rs_ok s8 h6 h1
      rw [r4]
      show SqOk sc (Y_add S (nI v) (nI a) _) ∧ (Y_add S (nI v) (nI a) _).1 = S.1 + 1
      rw [r5]
      exact ⟨SqOk_add h h20 h6 r1 r2 r3, Y_add_1 h20⟩
    · cases hy
  · rw [Y_cmd_n hv] at hy
    cases hy
theorem SqOk_cmds {T : Nat → Int32} {n sc : Nat} (s8 : sc ≤ 8) : ∀ (d : Nat) (q : Ps) (S : Sq), S.1 + d = 20 → SqOk sc S → (Y_cmds T n (nI sc) d q S).1 = true → SqOk sc (Y_cmds T n (nI sc) d q S).2.2 ∧ (Y_cmds T n (nI sc) d q S).2.2.1 ≤ 20
  | 0, q, S, hd, h, hy => by
    rw [Y_cmds] at hy ⊢
    split at hy
    · next h1 => rw [if_pos h1]; exact ⟨h, by show S.1 ≤ 20; omega⟩
    · cases hy
  | d + 1, q, S, hd, h, hy => by
    rw [Y_cmds] at hy ⊢
    split at hy
    · next h1 => rw [if_pos h1]; exact ⟨h, by show S.1 ≤ 20; omega⟩
    · next h1 =>
      rw [if_neg h1]
      split at hy
      · next h2 =>
        rw [if_pos h2]
        obtain ⟨k1, k2⟩ := SqOk_cmd s8 h (by omega) h2
        exact SqOk_cmds s8 d _ _ (by omega) k1 hy
      · cases hy
theorem SqOk_script {T : Nat → Int32} {n sc : Nat} {q : Ps} {S : Sq} (s8 : sc ≤ 8) (hy : (Y_script T n (nI sc) q S).1 = true) : SqOk sc (Y_script T n (nI sc) q S).2.2 ∧ (Y_script T n (nI sc) q S).2.2.1 ≤ 20 := SqOk_cmds s8 20 _ _ rfl (fun i hi => absurd hi (Nat.not_lt_zero i)) hy
theorem lp_MO_run {E : En} {h : Hp} {m st mi nu co wd nw sc ni cm : Nat} {c g Ti N K : Nat → Int32} {R : List (Nat × (Nat → Int32))} {S : Sq} {x1 : Int32} {PP : Option Value → Hp → Prop} (hM : MpOk h m st mi nu co wd) (nd : (m :: st :: mi :: nu :: co :: wd :: R.map Prod.fst).Nodup) (hcm : c 14 = nI cm) (h20 : cm ≤ 20) (hS : S.1 = cm) (hR : CmR sc S K) : ∀ (d i U : Nat) (B : Bu), i + d = cm → Gq B nw sc ni U → U + 101 * d ≤ 1999999000 → PP (some (.int (nI (P_run nw sc ni S d i B).1))) (wL h ((m, c) :: (st, (enc nw sc (P_run nw sc ni S d i B).2 g)) :: (mi, Ti) :: (nu, N) :: (co, K) :: (wd, wdR) :: R)) → G E m_MO_runScript 33 [(2, .int (nI i)), (0, .ref m), (1, .int x1)] [] (wL h ((m, c) :: (st, (enc nw sc B g)) :: (mi, Ti) :: (nu, N) :: (co, K) :: (wd, wdR) :: R)) 0 0 PP noX := by
  obtain ⟨k_m, r_m_0, k_st, l_st, r_m_4, k_mi, l_mi, r_m_12, k_nu, l_nu, r_m_13, k_co, l_co, r_m_18, k_wd, l_wd⟩ := id hM
  intro d
  induction d with
  | zero =>
    intro i U B hd hG hU kk
    refine g_iload_n (pc := 33) d_MO_runScript_33 rfl 0 rfl ?_
    refine g_aload_n (pc := 34) d_MO_runScript_34 rfl 1 rfl ?_
    refine g_lgI0 (pc := 35) (ci := 7) (f := 14) rfl d_MO_runScript_35 fl_MO_196 (by decide) k_m nd ?_
    refine g_top hcm ?_
    refine g_icmp_ge (pc := 38) (tgt := 59) d_MO_runScript_38 (by decide) (fun c_38 => ?_) (fun c_38 => ?_)
    · skip
      refine g_aload_n (pc := 59) d_MO_runScript_59 rfl 1 rfl ?_
      refine g_lgI0 (pc := 60) (ci := 7) (f := 14) rfl d_MO_runScript_60 fl_MO_196 (by decide) k_m nd ?_
      refine g_top hcm ?_
      refine g_iret (pc := 63) d_MO_runScript_63 rfl ?_
      rw [show cm = i by omega]
      exact kk
    · exact absurd ((nI_leI (a := cm) (b := i) (by omega) (by omega)).mpr (by omega)) c_38
  | succ d ih =>
    intro i U B hd hG hU kk
    obtain ⟨v, a, nm, h6, z1, z2, z3, hn, ha0, ha, e0, e1, e2⟩ := hR i (by omega)
    have ey := P_run_S (nw := nw) (sc := sc) (ni := ni) (d := d) (B := B) z1 z2 z3 h6 (P_arg ha0 ha hG.s8)
    have hG2 := Gq_do hG (by omega) ha hn
    rw [ey] at kk
    refine g_iload_n (pc := 33) d_MO_runScript_33 rfl 0 rfl ?_
    refine g_aload_n (pc := 34) d_MO_runScript_34 rfl 1 rfl ?_
    refine g_lgI0 (pc := 35) (ci := 7) (f := 14) rfl d_MO_runScript_35 fl_MO_196 (by decide) k_m nd ?_
    refine g_top hcm ?_
    refine g_icmp_ge (pc := 38) (tgt := 59) d_MO_runScript_38 (by decide) (fun c_38 => ?_) (fun c_38 => ?_)
    · exact absurd ((nI_leI (a := cm) (b := i) (by omega) (by omega)).mp c_38) (by omega)
    · skip
      refine g_aload_n (pc := 41) d_MO_runScript_41 rfl 1 rfl ?_
      refine g_iconst (pc := 42) (v := 3) d_MO_runScript_42 (by decide) ?_
      refine g_iload_n (pc := 43) d_MO_runScript_43 rfl 0 rfl ?_
      refine g_imul (pc := 44) d_MO_runScript_44 ?_
      refine g_top (y := nI (3 * i)) (nI_mul 3 i) ?_
      refine g_cV1 (pc := 45) (ci := 7) (As := [.int _]) d_MO_runScript_45 rfl mv_MO_execute st_MO_runScript_281 rfl rfl (by decide) rfl rfl (Nat.le_of_ble_eq_true rfl) k_m (cm_MO_execute (p := 3 * i) hM nd hG (by omega) (by omega) h6 ha hn e0 e1 e2) ?_
      refine g_if_ne (pc := 48) (tgt := 53) d_MO_runScript_48 (by decide) (fun c_48 => ?_) (fun c_48 => ?_)
      · skip
        have y1 : (P_do nw sc ni v a (nI nm) B).1 = true := bI_n0 c_48
        obtain ⟨x_1, hx_1⟩ : ∃ y : Int32, y = (nI i) + 1 := ⟨_, rfl⟩
        refine g_iinc (pc := 53) (w := 0) (v := x_1) (lv' := [(2, .int x_1), (0, .ref m), (1, .int x1)]) d_MO_runScript_53 rfl (by rw [hx_1]; rfl) (by decide) rfl ?_
        refine g_goto (pc := 56) (tgt := 33) d_MO_runScript_56 (by decide) ?_
        have e8 : x_1 = nI (i + 1) := by rw [hx_1]; exact nI_1 _
        clear hx_1
        subst e8
        rw [if_pos y1] at kk
        refine g_perm [0, 1, 2] rfl ?_
        exact ih (i + 1) (U + nm + 1) _ (by omega) hG2 (by omega) kk
      · skip
        have y1 : ¬ (P_do nw sc ni v a (nI nm) B).1 = true := by rw [bI_0.mp c_48]; decide
        refine g_iload_n (pc := 51) d_MO_runScript_51 rfl 0 rfl ?_
        refine g_iret (pc := 52) d_MO_runScript_52 rfl ?_
        rw [if_neg y1] at kk
        exact kk
set_option maxRecDepth 20000 in
set_option maxHeartbeats 4000000 in
theorem ce_MO_runScript {E : En} {h : Hp} {m st mi nu co wd n old kept nw sc ni U : Nat} {c g T Ti N K : Nat → Int32} {R : List (Nat × (Nat → Int32))} {q : Ps} {S0 : Sq} {B : Bu} (hM : MpOk h m st mi nu co wd) (nd : (m :: st :: mi :: nu :: co :: wd :: R.map Prod.fst).Nodup) (hn : n ≤ 500) (hc : c 5 = nI n) (hT : ∀ j, j < n → Ti j = T j) (hk1 : c 1 = nI old) (hk2 : c 2 = nI kept) (ho8 : old < 8) (hk8 : kept ≤ 8) (hG : Gq B nw sc ni U) (hU : U ≤ 1999990000) : CT E m_MO_runScript [.ref m] (wL h ((m, c) :: (st, (enc nw sc B g)) :: (mi, Ti) :: (nu, N) :: (co, K) :: (wd, wdR) :: R)) 0 0 (fun v1 h9 => ∃ z : Int32 × (Nat → Int32) × (Nat → Int32) × Nat, v1 = some (.int (if (Y_script T n (nI sc) q S0).1 = true then nI (P_run nw sc ni (Y_script T n (nI sc) q S0).2.2 (Y_script T n (nI sc) q S0).2.2.1 0 B).1 else 0)) ∧ h9 = wL h ((m, (if (Y_script T n (nI sc) q S0).1 = true then kpC (u1 (rQ (u1 c 17 0) z.2.2.2 (Y_script T n (nI sc) q S0).2.1 z.1) 5 0) old kept else u1 (u1 (rQ (u1 c 17 0) z.2.2.2 (Y_script T n (nI sc) q S0).2.1 z.1) 5 0) 17 1)) :: (st, (if (Y_script T n (nI sc) q S0).1 = true then enc nw sc (P_run nw sc ni (Y_script T n (nI sc) q S0).2.2 (Y_script T n (nI sc) q S0).2.2.1 0 B).2 (KC (enc nw sc B g) 0 (1 + (old + kept) % 8)) else enc nw sc B g)) :: (mi, Ti) :: (nu, z.2.1) :: (co, z.2.2.1) :: (wd, wdR) :: R)) noX := by
  refine ct_of rfl (by decide +kernel) (Nat.le_of_ble_eq_true rfl) ?_
  show G E m_MO_runScript 0 [(0, .ref m)] [] (wL h ((m, c) :: (st, (enc nw sc B g)) :: (mi, Ti) :: (nu, N) :: (co, K) :: (wd, wdR) :: R)) 0 0 _ noX
  obtain ⟨k_m, r_m_0, k_st, l_st, r_m_4, k_mi, l_mi, r_m_12, k_nu, l_nu, r_m_13, k_co, l_co, r_m_18, k_wd, l_wd⟩ := id hM
  refine g_aload_n (pc := 0) d_MO_runScript_0 rfl 0 rfl ?_
  refine g_iconst (pc := 1) (v := 0) d_MO_runScript_1 (by decide) ?_
  refine g_lpI0 (pc := 2) (ci := 7) (f := 17) rfl d_MO_runScript_2 fl_MO_52 (fun q hq => by cases hq; exact rfl) rfl rfl (by decide) k_m nd ?_
  obtain ⟨cm, nx, k, at9, v, e6, e7, er⟩ := rM_ex (u1 c 17 0)
  refine g_h (h' := wL h ((m, (rM (u1 c 17 0) cm nx k at9 v e6 e7)) :: (st, (enc nw sc B g)) :: (mi, Ti) :: (nu, N) :: (co, K) :: (wd, wdR) :: R)) (by rw [← er]) ?_
  refine g_aload_n (pc := 5) d_MO_runScript_5 rfl 0 rfl ?_
  refine g_cVx (pc := 6) (ci := 7) (As := []) d_MO_runScript_6 rfl mv_MO_failsAtScript st_MO_runScript_278 rfl rfl (by decide) rfl rfl (Nat.le_of_ble_eq_true rfl) k_m (ce_MO_failsAtScript (q := q) (sc := sc) (S0 := S0) hM nd hn (by rw [u1_ne (by omega)]; exact hc) hT (by rw [enc_c (by omega)]; exact hG.es) hG.s8) (fun y0 hy0 => ?_)
  refine g_nameI (fun x_1 hx_1 => ?_)
  refine g_istore_n (pc := 9) (lv' := [(1, .int x_1), (0, .ref m)]) d_MO_runScript_9 rfl (by decide) rfl ?_
  refine g_aload_n (pc := 10) d_MO_runScript_10 rfl 1 rfl ?_
  refine g_iconst (pc := 11) (v := 0) d_MO_runScript_11 (by decide) ?_
  refine g_lpI0 (pc := 12) (ci := 7) (f := 5) rfl d_MO_runScript_12 fl_MO_151 (fun q hq => by cases hq; exact rfl) rfl rfl (by decide) k_m nd ?_
  cases y1 : (Y_script T n (nI sc) q S0).1 with
  | true =>
    rw [y1] at hx_1
    have e1 : x_1 = 0 := hx_1
    subst e1
    refine g_aload_n (pc := 15) d_MO_runScript_15 rfl 1 rfl ?_
    refine g_iload_n (pc := 16) d_MO_runScript_16 rfl 0 rfl ?_
    refine g_iconst (pc := 17) (v := 1) d_MO_runScript_17 (by decide) ?_
    refine g_cV1 (pc := 18) (ci := 7) (As := [.int _, .int _]) d_MO_runScript_18 rfl mv_MO_throwsIf st_MO_runScript_154 rfl rfl (by decide) rfl rfl (Nat.le_of_ble_eq_true rfl) k_m (cm_MO_throwsIf_f k_m nd) ?_
    refine g_if_eq (pc := 21) (tgt := 26) d_MO_runScript_21 (by decide) (fun c_21 => ?_) (fun c_21 => ?_)
    · skip
      refine g_aload_n (pc := 26) d_MO_runScript_26 rfl 1 rfl ?_
      refine g_iconst (pc := 27) (v := 0) d_MO_runScript_27 (by decide) ?_
      refine g_cV0 (pc := 28) (ci := 7) (As := [.int _]) d_MO_runScript_28 rfl mv_MO_keep st_MO_runScript_239 rfl rfl (by decide) rfl rfl (Nat.le_of_ble_eq_true rfl) k_m (cm_MO_keep (c := (u1 (rQ (u1 c 17 0) y0.2.2.2 (Y_script T n (nI sc) q S0).2.1 y0.1) 5 0)) hM.mo nd hG.n6 hG.s8 hk1 hk2 ho8 hk8) ?_
      refine g_iconst (pc := 31) (v := 0) d_MO_runScript_31 (by decide) ?_
      refine g_istore_n (pc := 32) (lv' := [(2, .int (nI 0)), (1, .int 0), (0, .ref m)]) d_MO_runScript_32 rfl (by decide) rfl ?_
      obtain ⟨g1, g2, g3⟩ := hy0.2.2 y1
      have hcm : (kpC (u1 (rQ (u1 c 17 0) y0.2.2.2 (Y_script T n (nI sc) q S0).2.1 y0.1) 5 0) old kept) 14 = nI y0.2.2.2 := by unfold kpC; split <;> rfl
      refine g_perm [0, 2, 1] rfl ?_
      refine lp_MO_run (x1 := 0) (S := (Y_script T n (nI sc) q S0).2.2) hM nd hcm g2 g1.symm g3 y0.2.2.2 0 U B (by omega) hG (by omega) ?_
      exact ⟨y0, by rw [if_pos rfl, g1], by rw [g1]; rfl⟩
    · exact (c_21 (by decide)).elim
  | false =>
    rw [y1] at hx_1
    have e1 : x_1 = 1 := hx_1
    subst e1
    refine g_aload_n (pc := 15) d_MO_runScript_15 rfl 1 rfl ?_
    refine g_iload_n (pc := 16) d_MO_runScript_16 rfl 0 rfl ?_
    refine g_iconst (pc := 17) (v := 1) d_MO_runScript_17 (by decide) ?_
    refine g_cV1 (pc := 18) (ci := 7) (As := [.int _, .int _]) d_MO_runScript_18 rfl mv_MO_throwsIf st_MO_runScript_154 rfl rfl (by decide) rfl rfl (Nat.le_of_ble_eq_true rfl) k_m (cm_MO_throwsIf_t k_m nd) ?_
    refine g_if_eq (pc := 21) (tgt := 26) d_MO_runScript_21 (by decide) (fun c_21 => ?_) (fun c_21 => ?_)
    · exact absurd c_21 (by decide)
    · skip
      refine g_iconst (pc := 24) (v := 0) d_MO_runScript_24 (by decide) ?_
      refine g_iret (pc := 25) d_MO_runScript_25 rfl ?_
      exact ⟨y0, rfl, rfl⟩
