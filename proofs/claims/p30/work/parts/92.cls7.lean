/-! THE CLASS'S OWN METHODS (7): a state brought back -/
section CLS7
variable {G : GP} {Q : Option Value → Sh → Dt → Prop} {d : Dt} {A : AS}
set_option maxHeartbeats 4000000 in
set_option maxRecDepth 100000 in
theorem c_floorMod {x y : Int32} (hy : ¬ y = 0) (hQ : Q (some (.int (fml x y))) S1 d) : mC G mJ9_floorMod_7cf53 [.int x, .int y] S1 d Q := by
  refine mC_ofF (by decide +kernel) ⟨_, rfl⟩ (Nat.le_of_ble_eq_true rfl) ?_
  show mM G mJ9_floorMod_7cf53 0 [some (.int x), some (.int y), none] [] S1 d (0, 0) Q
  refine m_iload_n (pc' := 1) dJ9_floorMod_7cf53_0 rfl rfl ?_
  refine m_iload_n (pc' := 2) dJ9_floorMod_7cf53_1 rfl rfl ?_
  refine m_irem (pc' := 3) dJ9_floorMod_7cf53_2 hy rfl ?_
  refine m_istore_n (pc' := 4) dJ9_floorMod_7cf53_3 (by decide) rfl rfl ?_
  refine m_iload_n (pc' := 5) dJ9_floorMod_7cf53_4 rfl rfl ?_
  refine m_iload_n (pc' := 6) dJ9_floorMod_7cf53_5 rfl rfl ?_
  refine m_ixor (pc' := 7) dJ9_floorMod_7cf53_6 rfl ?_
  refine m_if_ge (tgt := 18) (pc' := 10) dJ9_floorMod_7cf53_7 (by decide) rfl (fun h7 => ?_) (fun h7 => ?_)
  · skip
    refine m_iload_n (pc' := 19) dJ9_floorMod_7cf53_18 rfl rfl ?_
    refine m_iret dJ9_floorMod_7cf53_19 rfl rfl ⟨by decide, by decide⟩ ?_
    exact q_i hQ (by unfold fml; rw [if_neg (fun h => Int32.not_lt.mpr h7 h.1)])
  · skip
    refine m_iload_n (pc' := 11) dJ9_floorMod_7cf53_10 rfl rfl ?_
    refine m_if_eq (tgt := 18) (pc' := 14) dJ9_floorMod_7cf53_11 (by decide) rfl (fun h11 => ?_) (fun h11 => ?_)
    · skip
      refine m_iload_n (pc' := 19) dJ9_floorMod_7cf53_18 rfl rfl ?_
      refine m_iret dJ9_floorMod_7cf53_19 rfl rfl ⟨by decide, by decide⟩ ?_
      exact q_i hQ (by unfold fml; rw [if_neg (fun h => h.2 h11)])
    · skip
      refine m_iload_n (pc' := 15) dJ9_floorMod_7cf53_14 rfl rfl ?_
      refine m_iload_n (pc' := 16) dJ9_floorMod_7cf53_15 rfl rfl ?_
      refine m_iadd (pc' := 17) dJ9_floorMod_7cf53_16 rfl ?_
      refine m_iret dJ9_floorMod_7cf53_17 rfl rfl ⟨by decide, by decide⟩ ?_
      exact q_i hQ (by unfold fml; rw [if_pos ⟨Int32.not_le.mp h7, h11⟩])
set_option maxHeartbeats 4000000 in
set_option maxRecDepth 100000 in
theorem c_back {m : Nat} (hm : a_m A = m + 1) (hH : HS d A) (h254 : a_v A (408 * m + 254) = 0 ∨ a_v A (408 * m + 254) = 1) (h331 : a_v A (408 * m + 331) = 0 ∨ a_v A (408 * m + 331) = 1) (hQ : ∀ d', fr (fun x _ => x ≤ 188) (fun x _ => x ≤ 188) d d' → TR d' 1 (fun j => a_v A (408 * m + j)) (a_c A m) → (∀ s h t n, HS d' (s, m, a_v A, a_c A, h, t, n)) → Q none S1 d') : mC G mX1_bringBack [.ref 32, .ref 1] S1 d Q := by
  obtain ⟨nx, hnx, hx1, hx2, hm5, hT⟩ := hH
  have hN := st_mem (show (nx + 4) % 5 < 5 by omega)
  have hTm := hT m (by omega)
  rw [show (nx + 5 - a_m A + m) % 5 = (nx + 4) % 5 by omega] at hTm
  refine mC_of (by decide +kernel) ⟨_, rfl⟩ (Nat.le_of_ble_eq_true rfl) ?_
  show mM G mX1_bringBack 0 [some (.ref 32), some (.ref 1), none, none] [] S1 d (0, 0) Q
  refine m_aload_n (pc' := 1) dX1_bringBack_0 rfl rfl ?_
  refine m_getI (pc' := 4) fa_X1_bringBack_18 dX1_bringBack_1 (by decide) rfl rfl rfl ?_
  rw [show (d.1 32 1) = (nI nx) from hx1]
  refine m_iconst (pc' := 5) (v := 1) dX1_bringBack_4 (by decide) rfl ?_
  refine m_isub (pc' := 6) dX1_bringBack_5 rfl ?_
  refine m_iconst (pc' := 7) (v := 5) dX1_bringBack_6 (by decide) rfl ?_
  refine m_callS (pc' := 10) (A := [.int ((nI nx) - 1), .int 5]) (rest := []) cl_X1_bringBack_39 dX1_bringBack_7 rfl rfl (Nat.le_of_ble_eq_true rfl) ⟨by decide, by decide⟩ rfl rfl ?_
  refine c_floorMod (by decide) ?_
  show mM G mX1_bringBack 10 [some (.ref 32), some (.ref 1), none, none] [.int (fml ((nI nx) - 1) 5)] S1 d (0, 0) Q
  rw [show (fml ((nI nx) - 1) 5) = (nI ((nx + 4) % 5)) from fml_5 hnx]
  refine m_istore_n (pc' := 11) dX1_bringBack_10 (by decide) rfl rfl ?_
  refine m_aload_n (pc' := 12) dX1_bringBack_11 rfl rfl ?_
  refine m_iload_n (pc' := 13) dX1_bringBack_12 rfl rfl ?_
  refine m_callV (pc' := 16) (A := [.int (nI ((nx + 4) % 5))]) (rest := []) (b := 32) cl_X1_bringBack_22 dX1_bringBack_13 rfl rfl (Nat.le_of_ble_eq_true rfl) ⟨by decide, by decide⟩ (by decide) rfl rfl rfl rfl ?_
  refine c_placeAt (i := (nx + 4) % 5) (by omega) ?_
  show mM G mX1_bringBack 16 [some (.ref 32), some (.ref 1), some (.int (nI ((nx + 4) % 5))), none] [.ref (34 + 31 * ((nx + 4) % 5))] S1 d (0, 0) Q
  refine m_astore_n (pc' := 17) dX1_bringBack_16 (by decide) rfl rfl ?_
  refine m_aload_n (pc' := 18) dX1_bringBack_17 rfl rfl ?_
  refine m_ifnull (pc' := 21) dX1_bringBack_18 rfl ?_
  refine m_aload_n (pc' := 22) dX1_bringBack_21 rfl rfl ?_
  refine m_aload_n (pc' := 23) dX1_bringBack_22 rfl rfl ?_
  refine m_callV (pc' := 26) (A := [.ref (34 + 31 * ((nx + 4) % 5))]) (rest := []) (b := 1) cl_X1_bringBack_26 dX1_bringBack_23 rfl rfl (Nat.le_of_ble_eq_true rfl) ⟨by decide, by decide⟩ (by decide) rfl rfl rfl rfl ?_
  refine c_stcopy (a := 1) (b := (34 + 31 * ((nx + 4) % 5))) (s := fun j => a_v A (408 * m + j)) (h := a_c A m) (by decide) hN (by omega) hTm h254 h331 (fun e e0 eT => ?_)
  show mM G mX1_bringBack 26 [some (.ref 32), some (.ref 1), some (.int (nI ((nx + 4) % 5))), some (.ref (34 + 31 * ((nx + 4) % 5)))] [] S1 e (0, 0) Q
  refine m_aload_n (pc' := 27) dX1_bringBack_26 rfl rfl ?_
  refine m_iload_n (pc' := 28) dX1_bringBack_27 rfl rfl ?_
  refine m_putI (pc' := 31) (ty := .int) fa_X1_bringBack_18 dX1_bringBack_28 (by decide +kernel) rfl rfl (by decide) rfl rfl rfl ?_
  refine m_aload_n (pc' := 32) dX1_bringBack_31 rfl rfl ?_
  refine m_dup (pc' := 33) dX1_bringBack_32 rfl ?_
  refine m_getI (pc' := 36) fa_X1_bringBack_30 dX1_bringBack_33 (by decide) rfl rfl rfl ?_
  show mM G mX1_bringBack 36 [some (.ref 32), some (.ref 1), some (.int (nI ((nx + 4) % 5))), some (.ref (34 + 31 * ((nx + 4) % 5)))] [.int (e.1 32 2), .ref 32] S1 (u2 e.1 32 1 (nI ((nx + 4) % 5)), e.2) (0, 0) Q
  rw [show (e.1 32 2) = (nI (m + 1)) from (e0.1 32 2 (by show ¬ (_ ∧ _); omega)).trans (hx2.trans (by rw [hm]))]
  refine m_iconst (pc' := 37) (v := 1) dX1_bringBack_36 (by decide) rfl ?_
  refine m_isub (pc' := 38) dX1_bringBack_37 rfl ?_
  rw [show ((nI (m + 1)) - 1) = (nI m) from nI_pred m]
  refine m_putI (pc' := 41) (ty := .int) fa_X1_bringBack_30 dX1_bringBack_38 (by decide +kernel) rfl rfl (by decide) rfl rfl rfl ?_
  refine m_vret dX1_bringBack_41 rfl ⟨by decide, by decide⟩ ?_
  have q2 : (u2 (u2 e.1 32 1 (nI ((nx + 4) % 5))) 32 2 (nI m)) 32 2 = (nI m) := u2_same
  have q1 : (u2 (u2 e.1 32 1 (nI ((nx + 4) % 5))) 32 2 (nI m)) 32 1 = (nI ((nx + 4) % 5)) := (u2_oth (show 1 ≠ 2 by decide) 32).trans u2_same
  have q0 : ∀ x j, x ≠ 32 → (u2 (u2 e.1 32 1 (nI ((nx + 4) % 5))) 32 2 (nI m)) x j = e.1 x j := fun x j hx => (congrFun (u2_ne hx) j).trans (congrFun (u2_ne hx) j)
  refine hQ _ (((e0.mono (by intro x j q; have := q.2; omega) (by intro x j q; have : x = 1 := q; omega)).i _ (by show 32 ≤ 188; decide)).i _ (by show 32 ≤ 188; decide)) (TR_bk eT ⟨fun x j h1 h2 => q0 x j (by omega), fun j => rfl⟩) (HS_back hnx hm hm5 hT e0 q0 rfl q1 q2)
end CLS7
