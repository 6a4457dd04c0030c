/-! THE CLASS'S OWN METHODS (5): a state copied; the history -/
section CLS5
variable {G : GP} {Q : Option Value → Sh → Dt → Prop} {d : Dt} {a b : Nat} {s : SS}
theorem c_tcopyF {t t2 W W2 L : Nat} (hT : isT t W L) (hT2 : isT t2 W2 L) (hL : L < 2 ^ 31) (hQ : ∀ d', fr (rE (t + 1)) nE d d' → (∀ j, j < L → d'.1 (t + 1) j = d.1 (t2 + 1) j) → Q none S1 d') : mC G mX7_copyFrom [.ref t, .ref t2] S1 d Q :=
  c_tcopy hT hT2 hL (hQ _ ⟨fun y j hy => congrFun (cpy_ne hy) j, fun _ _ _ => rfl⟩ (fun j hj => cpy_at hj))
set_option maxHeartbeats 4000000 in
set_option maxRecDepth 100000 in
theorem c_stcopy {h : UInt32} (hA : a ∈ stL) (hB : b ∈ stL) (hab : a ≠ b) (hT : TR d b s h) (h254 : s 254 = 0 ∨ s 254 = 1) (h331 : s 331 = 0 ∨ s 331 = 1) (hQ : ∀ d', fr (stE a) (stF a) d d' → TR d' a s h → Q none S1 d') : mC G mX6_copyFrom [.ref a, .ref b] S1 d Q := by
  have hf := st_far hA hB hab
  refine mC_of (by decide +kernel) ⟨_, rfl⟩ (Nat.le_of_ble_eq_true rfl) ?_
  show mM G mX6_copyFrom 0 [some (.ref a), some (.ref b)] [] S1 d (0, 0) Q
  refine m_aload_n (pc' := 1) dX6_copyFrom_0 rfl rfl ?_
  refine m_getR (pc' := 4) fa_X6_copyFrom_12 dX6_copyFrom_1 (sa_lt0 hA) (sa_k0 hA) rfl (sa_r0_0 hA) rfl ?_
  refine m_aload_n (pc' := 5) dX6_copyFrom_4 rfl rfl ?_
  refine m_getR (pc' := 8) fa_X6_copyFrom_12 dX6_copyFrom_5 (sa_lt0 hB) (sa_k0 hB) rfl (sa_r0_0 hB) rfl ?_
  refine m_callV (pc' := 11) (A := [.ref (b + 1)]) (rest := []) (b := a + 1) cl_X6_copyFrom_52 dX6_copyFrom_8 rfl rfl (Nat.le_of_ble_eq_true rfl) ⟨by decide, by decide⟩ (sa_lt1 hA) (sa_k1 hA) rfl rfl rfl ?_
  refine c_scopy (a := a + 1) (b := b + 1) (s := s) (sa_B1 hA) (sa_B1 hB) (by omega) hT.1 (fun e1 f1 p1 => ?_)
  show mM G mX6_copyFrom 11 [some (.ref a), some (.ref b)] [] S1 e1 (0, 0) Q
  have kb1 : blk d e1 b := ⟨fun x j h1 h2 => (f1.1 x j (by intro q; omega)).trans (rfl), fun j => (f1.2 b j id).trans (rfl)⟩
  refine m_aload_n (pc' := 12) dX6_copyFrom_11 rfl rfl ?_
  refine m_getR (pc' := 15) fa_X6_copyFrom_21 dX6_copyFrom_12 (sa_lt0 hA) (sa_k0 hA) rfl (sa_r0_1 hA) rfl ?_
  refine m_aload_n (pc' := 16) dX6_copyFrom_15 rfl rfl ?_
  refine m_getR (pc' := 19) fa_X6_copyFrom_21 dX6_copyFrom_16 (sa_lt0 hB) (sa_k0 hB) rfl (sa_r0_1 hB) rfl ?_
  refine m_callV (pc' := 22) (A := [.ref (b + 8)]) (rest := []) (b := a + 8) cl_X6_copyFrom_56 dX6_copyFrom_19 rfl rfl (Nat.le_of_ble_eq_true rfl) ⟨by decide, by decide⟩ (sa_lt8 hA) (sa_k8 hA) rfl rfl rfl ?_
  refine c_logcopy (a := a) (b := b) hA hB hab (fun e2 f2 p2 p2a p2b => ?_)
  show mM G mX6_copyFrom 22 [some (.ref a), some (.ref b)] [] S1 e2 (0, 0) Q
  have kb2 : blk d e2 b := ⟨fun x j h1 h2 => (f2.1 x j (by intro q; omega)).trans (kb1.1 x j h1 h2), fun j => (f2.2 b j id).trans (kb1.2 j)⟩
  refine m_aload_n (pc' := 23) dX6_copyFrom_22 rfl rfl ?_
  refine m_getR (pc' := 26) fa_X6_copyFrom_30 dX6_copyFrom_23 (sa_lt0 hA) (sa_k0 hA) rfl (sa_r0_2 hA) rfl ?_
  refine m_aload_n (pc' := 27) dX6_copyFrom_26 rfl rfl ?_
  refine m_getR (pc' := 30) fa_X6_copyFrom_30 dX6_copyFrom_27 (sa_lt0 hB) (sa_k0 hB) rfl (sa_r0_2 hB) rfl ?_
  refine m_callV (pc' := 33) (A := [.ref (b + 11)]) (rest := []) (b := a + 11) cl_X6_copyFrom_59 dX6_copyFrom_30 rfl rfl (Nat.le_of_ble_eq_true rfl) ⟨by decide, by decide⟩ (sa_lt11 hA) (sa_k11 hA) rfl rfl rfl ?_
  refine c_tcopyF (t := a + 11) (t2 := b + 11) (sa_T11 hA) (sa_T11 hB) (by decide) (fun e3 f3 p3 => ?_)
  show mM G mX6_copyFrom 33 [some (.ref a), some (.ref b)] [] S1 e3 (0, 0) Q
  have kb3 : blk d e3 b := ⟨fun x j h1 h2 => (f3.1 x j (by intro q; omega)).trans (kb2.1 x j h1 h2), fun j => (f3.2 b j id).trans (kb2.2 j)⟩
  refine m_aload_n (pc' := 34) dX6_copyFrom_33 rfl rfl ?_
  refine m_getR (pc' := 37) fa_X6_copyFrom_34 dX6_copyFrom_34 (sa_lt0 hA) (sa_k0 hA) rfl (sa_r0_3 hA) rfl ?_
  refine m_aload_n (pc' := 38) dX6_copyFrom_37 rfl rfl ?_
  refine m_getR (pc' := 41) fa_X6_copyFrom_34 dX6_copyFrom_38 (sa_lt0 hB) (sa_k0 hB) rfl (sa_r0_3 hB) rfl ?_
  refine m_callV (pc' := 44) (A := [.ref (b + 13)]) (rest := []) (b := a + 13) cl_X6_copyFrom_59 dX6_copyFrom_41 rfl rfl (Nat.le_of_ble_eq_true rfl) ⟨by decide, by decide⟩ (sa_lt13 hA) (sa_k13 hA) rfl rfl rfl ?_
  refine c_tcopyF (t := a + 13) (t2 := b + 13) (sa_T13 hA) (sa_T13 hB) (by decide) (fun e4 f4 p4 => ?_)
  show mM G mX6_copyFrom 44 [some (.ref a), some (.ref b)] [] S1 e4 (0, 0) Q
  have kb4 : blk d e4 b := ⟨fun x j h1 h2 => (f4.1 x j (by intro q; omega)).trans (kb3.1 x j h1 h2), fun j => (f4.2 b j id).trans (kb3.2 j)⟩
  refine m_aload_n (pc' := 45) dX6_copyFrom_44 rfl rfl ?_
  refine m_getR (pc' := 48) fa_X6_copyFrom_40 dX6_copyFrom_45 (sa_lt0 hA) (sa_k0 hA) rfl (sa_r0_4 hA) rfl ?_
  refine m_aload_n (pc' := 49) dX6_copyFrom_48 rfl rfl ?_
  refine m_getR (pc' := 52) fa_X6_copyFrom_40 dX6_copyFrom_49 (sa_lt0 hB) (sa_k0 hB) rfl (sa_r0_4 hB) rfl ?_
  refine m_callV (pc' := 55) (A := [.ref (b + 15)]) (rest := []) (b := a + 15) cl_X6_copyFrom_62 dX6_copyFrom_52 rfl rfl (Nat.le_of_ble_eq_true rfl) ⟨by decide, by decide⟩ (sa_lt15 hA) (sa_k15 hA) rfl rfl rfl ?_
  refine c_sncopy15 hA hB hab (by rw [kb4.1 (b + 15) 1 (by omega) (by omega), hT.2.2.2.2.1.1]; exact h254) (fun e5 f5 p5 p5a => ?_)
  show mM G mX6_copyFrom 55 [some (.ref a), some (.ref b)] [] S1 e5 (0, 0) Q
  have kb5 : blk d e5 b := ⟨fun x j h1 h2 => (f5.1 x j (by intro q; omega)).trans (kb4.1 x j h1 h2), fun j => (f5.2 b j id).trans (kb4.2 j)⟩
  refine m_aload_n (pc' := 56) dX6_copyFrom_55 rfl rfl ?_
  refine m_getR (pc' := 59) fa_X6_copyFrom_44 dX6_copyFrom_56 (sa_lt0 hA) (sa_k0 hA) rfl (sa_r0_5 hA) rfl ?_
  refine m_aload_n (pc' := 60) dX6_copyFrom_59 rfl rfl ?_
  refine m_getR (pc' := 63) fa_X6_copyFrom_44 dX6_copyFrom_60 (sa_lt0 hB) (sa_k0 hB) rfl (sa_r0_5 hB) rfl ?_
  refine m_callV (pc' := 66) (A := [.ref (b + 23)]) (rest := []) (b := a + 23) cl_X6_copyFrom_62 dX6_copyFrom_63 rfl rfl (Nat.le_of_ble_eq_true rfl) ⟨by decide, by decide⟩ (sa_lt23 hA) (sa_k23 hA) rfl rfl rfl ?_
  refine c_sncopy23 hA hB hab (by rw [kb5.1 (b + 23) 1 (by omega) (by omega), hT.2.2.2.2.2.1.1]; exact h331) (fun e6 f6 p6 p6a => ?_)
  show mM G mX6_copyFrom 66 [some (.ref a), some (.ref b)] [] S1 e6 (0, 0) Q
  have kb6 : blk d e6 b := ⟨fun x j h1 h2 => (f6.1 x j (by intro q; omega)).trans (kb5.1 x j h1 h2), fun j => (f6.2 b j id).trans (kb5.2 j)⟩
  refine m_aload_n (pc' := 67) dX6_copyFrom_66 rfl rfl ?_
  refine m_aload_n (pc' := 68) dX6_copyFrom_67 rfl rfl ?_
  refine m_getF (pc' := 71) fa_X6_copyFrom_65 dX6_copyFrom_68 (sa_lt0 hB) (sa_k0 hB) rfl rfl ?_
  rw [show (e6.2 b 6) = h from (kb6.2 6).trans hT.2.2.2.2.2.2]
  refine m_putFl (pc' := 74) fa_X6_copyFrom_65 dX6_copyFrom_71 (sa_lt0 hA) (sa_k0 hA) rfl rfl ?_
  refine m_vret dX6_copyFrom_74 rfl ⟨by decide, by decide⟩ ?_
  have g1 : fr (fun x _ => a + 8 ≤ x) nE e1 e6 := ((((f2.mono (by intro x j q; omega) (fun _ _ => id)).trans (f3.mono (by intro x j q; have : x = a + 11 + 1 := q; omega) (fun _ _ => id))).trans (f4.mono (by intro x j q; have : x = a + 13 + 1 := q; omega) (fun _ _ => id))).trans (f5.mono (by intro x j q; omega) (fun _ _ => id))).trans (f6.mono (by intro x j q; omega) (fun _ _ => id))
  have g2 : fr (fun x _ => a + 11 ≤ x) nE e2 e6 := (((f3.mono (by intro x j q; have : x = a + 11 + 1 := q; omega) (fun _ _ => id)).trans (f4.mono (by intro x j q; have : x = a + 13 + 1 := q; omega) (fun _ _ => id))).trans (f5.mono (by intro x j q; omega) (fun _ _ => id))).trans (f6.mono (by intro x j q; omega) (fun _ _ => id))
  have g3 : fr (fun x _ => a + 13 ≤ x) nE e3 e6 := ((f4.mono (by intro x j q; have : x = a + 13 + 1 := q; omega) (fun _ _ => id)).trans (f5.mono (by intro x j q; omega) (fun _ _ => id))).trans (f6.mono (by intro x j q; omega) (fun _ _ => id))
  have g4 : fr (fun x _ => a + 15 ≤ x) nE e4 e6 := (f5.mono (by intro x j q; omega) (fun _ _ => id)).trans (f6.mono (by intro x j q; omega) (fun _ _ => id))
  have g5 : fr (fun x _ => a + 23 ≤ x) nE e5 e6 := f6.mono (by intro x j q; omega) (fun _ _ => id)
  have gA : fr (stE a) (stF a) d e6 := (((((f1.mono (by intro x j q; omega) (fun _ _ => False.elim)).trans (f2.mono (by intro x j q; omega) (fun _ _ => False.elim))).trans (f3.mono (by intro x j q; have : x = a + 11 + 1 := q; omega) (fun _ _ => False.elim))).trans (f4.mono (by intro x j q; have : x = a + 13 + 1 := q; omega) (fun _ _ => False.elim))).trans (f5.mono (by intro x j q; omega) (fun _ _ => False.elim))).trans (f6.mono (by intro x j q; omega) (fun _ _ => False.elim))
  obtain ⟨t1, ⟨nx, c, l1, l2, l3, l4, l5, l6⟩, t3, t4, t5, t6, t7⟩ := hT
  refine hQ _ (gA.f _ rfl) ⟨?_, ⟨nx, c, l1, l2, ?_, ?_, l5, fun k j hk hj => ?_⟩, fun p hp => ?_, fun i hi => ?_, ⟨?_, fun q => ?_⟩, ⟨?_, fun q => ?_⟩, u2_same⟩
  · show SR e6 (a + 1) s; exact SR.fr (E := fun x _ => a + 8 ≤ x) (EF := nE) p1 g1 (fun j => show ¬ (a + 8 ≤ a + 1 + 2) by omega) (fun j => show ¬ (a + 8 ≤ a + 1 + 4) by omega) (fun j => show ¬ (a + 8 ≤ a + 1 + 6) by omega) (show ¬ (a + 8 ≤ a + 1) by omega)
  · exact (g2.1 (a + 8) 1 (by omega)).trans (p2a.trans ((kb1.1 _ _ (by omega) (by omega)).trans l3))
  · exact (g2.1 (a + 8) 2 (by omega)).trans (p2b.trans ((kb1.1 _ _ (by omega) (by omega)).trans l4))
  · exact (g2.1 (a + 10) _ (by omega)).trans ((p2 _ (by omega)).trans ((kb1.1 _ _ (by omega) (by omega)).trans (l6 k j hk hj)))
  · exact (g3.1 (a + 12) _ (by omega)).trans ((p3 _ hp).trans ((kb2.1 _ _ (by omega) (by omega)).trans (t3 p hp)))
  · exact (g4.1 (a + 14) _ (by omega)).trans ((p4 _ hi).trans ((kb3.1 _ _ (by omega) (by omega)).trans (t4 i hi)))
  · exact (g5.1 (a + 15) 1 (by omega)).trans (p5a.trans ((kb4.1 _ _ (by omega) (by omega)).trans t5.1))
  · exact (p5.fr g5 (by intro j; omega) (by intro j; omega) (by intro j; omega) (by omega)).cg (rd_SR (SR_bk (t5.2 q) kb4 (by omega) (by omega)))
  · exact p6a.trans ((kb5.1 _ _ (by omega) (by omega)).trans t6.1)
  · exact p6.cg (rd_SR (SR_bk (t6.2 q) kb5 (by omega) (by omega)))
end CLS5
