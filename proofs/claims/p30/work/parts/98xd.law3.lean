/-! THE LAW'S OWN METHODS (3): isRight -/
section LAWB
variable {G : GP} {Q : Option Value → Sh → Dt → Prop} {d : Dt}
theorem tp_e1 {A : AS} {k : Nat} (hO : OK A) (hk : k < nn (a_s A 43)) : vEntry A (nI k) 1 = a_s A (45 + 2 * k) := (tp_entry hO hk 1 (by decide)).trans (congrArg (a_s A) (by omega))
theorem tp_e1q {A : AS} {k : Nat} (hO : OK A) (hk : k < nn (a_s A 43)) : vEntry A (nI k) 1 = nI (qn (a_s A) k) := (tp_e1 hO hk).trans (okL_q (okL_n hO.1.1) hk).1
theorem tp_e0 {A : AS} {k : Nat} (hO : OK A) (hk : k < nn (a_s A 43)) : vEntry A (nI k) 0 = nI (pn (a_s A) k) := (tp_entry hO hk 0 (by decide)).trans (okL_p (okL_n hO.1.1) hk).1
theorem tp_er' {A : AS} {k : Nat} (hO : OK A) (hk : k < nn (a_s A 43)) : ¬ vWould A (nI k) 0 < 0 ∧ ¬ 4095 < vWould A (nI k) 0 := by
  obtain ⟨e, -, -⟩ := tp_w0 hO hk
  obtain ⟨y, y1, y2⟩ := tp_er (s := a_s A) (t := nn (a_s A 76)) (h := a_h A) (k := k)
  rw [e, y2]; exact ⟨nI_pos (by omega), nI_nlt (a := 4095) y1 (by decide)⟩
theorem tp_clean {A : AS} {k : Nat} (hO : OK A) (hk : k < nn (a_s A 43)) (h : rsl (a_s A) (pn (a_s A) k) = 0) : vWould A (nI k) 1 = 0 := (tp_w0 hO hk).2.1.trans (tp_c0 h)
theorem tp_behind {A : AS} {k : Nat} (hO : OK A) (hk : k < nn (a_s A 43)) (h1 : 1 ≤ k) (h : pn (a_s A) (k - 1) = 8) : vWould A (nI k) 1 = 0 := by
  obtain ⟨j, rfl⟩ : ∃ j, k = j + 1 := ⟨k - 1, by omega⟩
  rw [Nat.add_sub_cancel] at h
  exact (tp_w0 hO hk).2.1.trans (tp_cg h)
set_option maxHeartbeats 4000000 in
set_option maxRecDepth 100000 in
theorem lw_isRight {A : AS} {T : Nat} (hC : CR d A) (hI : tp_I A T) (hT9 : T ≤ 9999) (hQ : ∀ d', CR d' A → Q (some (.int 1)) S1 d') : mC G mL_isRight [.ref 0] S1 d Q := by
  have hm : vCount A 1 = nI (nn (a_s A 43)) := (tp_len hI.1).2
  have hO := hI.1
  have h16 := (tp_len hO).1
  generalize hn : nn (a_s A 43) = n at hm h16
  obtain ⟨lg, m, hl32, hlg, hm4, hm9, hlm, hl33, hmono, hlg0⟩ := tp_log hI hT9
  obtain ⟨yc, hy1, hy2⟩ := cnc_le (a_s A) n
  have h7 : vCount A 7 = sls (a_s A) n := by rw [← hn]; rfl
  obtain ⟨yg, hg1, hg2⟩ : ∃ y : Nat, y ≤ n ∧ vGrounds A = nI y := by rw [← hn]; exact gns_n _
  have h8 : vCount A 10 + vCount A 11 + vCount A 12 = 8 := by
    obtain ⟨a, b, c, e, e1, e2, e3⟩ := cks_3 hO.1.1.1 8 (Nat.le_refl _)
    show cks (a_s A) 0 8 + cks (a_s A) 1 8 + cks (a_s A) 2 8 = 8
    rw [e1, e2, e3, nI_add, nI_add, e]; rfl
  have K378 : ∀ (d1 : Dt) (hC1 : CR d1 A), mM G mL_isRight 378 [some (.ref 0), some (.int (nI n)), some (.int (sls (a_s A) n)), some (.int (cnc (a_s A) n 8)), some (.int (nI lg)), none, none, none, none, none, none, none] [] S1 d1 (0, 0) Q := by
    intro d1 hC1
    refine m_aload_n (pc' := 379) dL_isRight_378 rfl rfl ?_
    refine m_iconst (pc' := 380) (v := 0) dL_isRight_379 (by decide) rfl ?_
    refine m_callV (pc' := 383) (A := [.int 0]) (rest := []) (b := 0) cl_L_isRight_28 dL_isRight_380 rfl rfl (Nat.le_of_ble_eq_true rfl) ⟨by decide, by decide⟩ (by decide) rfl rfl rfl rfl ?_
    refine k_account hC1 hO (fun e1 fe1 ce1 => ?_)
    show mM G mL_isRight 383 [some (.ref 0), some (.int (nI n)), some (.int (sls (a_s A) n)), some (.int (cnc (a_s A) n 8)), some (.int (nI lg)), none, none, none, none, none, none, none] [.int (vAccount A 0)] S1 e1 (0, 0) Q
    refine m_aload_n (pc' := 384) dL_isRight_383 rfl rfl ?_
    refine m_iconst (pc' := 385) (v := 1) dL_isRight_384 (by decide) rfl ?_
    refine m_callV (pc' := 388) (A := [.int 1]) (rest := [.int (vAccount A 0)]) (b := 0) cl_L_isRight_28 dL_isRight_385 rfl rfl (Nat.le_of_ble_eq_true rfl) ⟨by decide, by decide⟩ (by decide) rfl rfl rfl rfl ?_
    refine k_account ce1 hO (fun e2 fe2 ce2 => ?_)
    show mM G mL_isRight 388 [some (.ref 0), some (.int (nI n)), some (.int (sls (a_s A) n)), some (.int (cnc (a_s A) n 8)), some (.int (nI lg)), none, none, none, none, none, none, none] [.int (vAccount A 1), .int (vAccount A 0)] S1 e2 (0, 0) Q
    refine m_iadd (pc' := 389) dL_isRight_388 rfl ?_
    refine m_aload_n (pc' := 390) dL_isRight_389 rfl rfl ?_
    refine m_iconst (pc' := 391) (v := 2) dL_isRight_390 (by decide) rfl ?_
    refine m_callV (pc' := 394) (A := [.int 2]) (rest := [.int ((vAccount A 0) + (vAccount A 1))]) (b := 0) cl_L_isRight_28 dL_isRight_391 rfl rfl (Nat.le_of_ble_eq_true rfl) ⟨by decide, by decide⟩ (by decide) rfl rfl rfl rfl ?_
    refine k_account ce2 hO (fun e3 fe3 ce3 => ?_)
    show mM G mL_isRight 394 [some (.ref 0), some (.int (nI n)), some (.int (sls (a_s A) n)), some (.int (cnc (a_s A) n 8)), some (.int (nI lg)), none, none, none, none, none, none, none] [.int (vAccount A 2), .int ((vAccount A 0) + (vAccount A 1))] S1 e3 (0, 0) Q
    refine m_iadd (pc' := 395) dL_isRight_394 rfl ?_
    refine m_aload_n (pc' := 396) dL_isRight_395 rfl rfl ?_
    refine m_iconst (pc' := 397) (v := 3) dL_isRight_396 (by decide) rfl ?_
    refine m_callV (pc' := 400) (A := [.int 3]) (rest := [.int (((vAccount A 0) + (vAccount A 1)) + (vAccount A 2))]) (b := 0) cl_L_isRight_28 dL_isRight_397 rfl rfl (Nat.le_of_ble_eq_true rfl) ⟨by decide, by decide⟩ (by decide) rfl rfl rfl rfl ?_
    refine k_account ce3 hO (fun e4 fe4 ce4 => ?_)
    show mM G mL_isRight 400 [some (.ref 0), some (.int (nI n)), some (.int (sls (a_s A) n)), some (.int (cnc (a_s A) n 8)), some (.int (nI lg)), none, none, none, none, none, none, none] [.int (vAccount A 3), .int (((vAccount A 0) + (vAccount A 1)) + (vAccount A 2))] S1 e4 (0, 0) Q
    refine m_iadd (pc' := 401) dL_isRight_400 rfl ?_
    rw [show ((((vAccount A 0) + (vAccount A 1)) + (vAccount A 2)) + (vAccount A 3)) = (a_s A 76) from hI.1.1.2.2.2.2.2.symm]
    refine m_istore (pc' := 403) dL_isRight_401 (by decide) rfl rfl ?_
    refine m_iload (pc' := 405) dL_isRight_403 rfl rfl ?_
    refine m_bipush (pc' := 407) (v := 32) dL_isRight_405 (by decide) rfl ?_
    refine m_icmp_gt (tgt := 453) (pc' := 410) dL_isRight_407 (by decide) rfl (fun h407 => absurd h407 (nI_nlt (a := 32) hl32 (by decide))) (fun h407 => ?_)
    refine m_aload_n (pc' := 411) dL_isRight_410 rfl rfl ?_
    refine m_iconst (pc' := 412) (v := 4) dL_isRight_411 (by decide) rfl ?_
    refine m_callV (pc' := 415) (A := [.int 4]) (rest := []) (b := 0) cl_L_isRight_28 dL_isRight_412 rfl rfl (Nat.le_of_ble_eq_true rfl) ⟨by decide, by decide⟩ (by decide) rfl rfl rfl rfl ?_
    refine k_account ce4 hO (fun e5 fe5 ce5 => ?_)
    show mM G mL_isRight 415 [some (.ref 0), some (.int (nI n)), some (.int (sls (a_s A) n)), some (.int (cnc (a_s A) n 8)), some (.int (nI lg)), some (.int (a_s A 76)), none, none, none, none, none, none] [.int (vAccount A 4)] S1 e5 (0, 0) Q
    rw [show (vAccount A 4) = (nI m) from hm4]
    refine m_iload (pc' := 417) dL_isRight_415 rfl rfl ?_
    refine m_icmp_lt (tgt := 453) (pc' := 420) dL_isRight_417 (by decide) rfl (fun h417 => absurd h417 (nI_nlt hlm (by omega))) (fun h417 => ?_)
    refine m_iload (pc' := 422) dL_isRight_420 rfl rfl ?_
    refine m_bipush (pc' := 424) (v := 32) dL_isRight_422 (by decide) rfl ?_
    refine m_icmp_eq (tgt := 437) (pc' := 427) dL_isRight_424 (by decide) rfl (fun h424 => ?_) (fun h424 => ?_)
    · skip
      refine m_aload_n (pc' := 438) dL_isRight_437 rfl rfl ?_
      refine m_iload (pc' := 440) dL_isRight_438 rfl rfl ?_
      refine m_iconst (pc' := 441) (v := 0) dL_isRight_440 (by decide) rfl ?_
      refine m_callV (pc' := 444) (A := [.int (nI lg), .int 0]) (rest := []) (b := 0) cl_L_isRight_25 dL_isRight_441 rfl rfl (Nat.le_of_ble_eq_true rfl) ⟨by decide, by decide⟩ (by decide) rfl rfl rfl rfl ?_
      refine k_sample ce5 hO (fun e6 fe6 ce6 => ?_)
      show mM G mL_isRight 444 [some (.ref 0), some (.int (nI n)), some (.int (sls (a_s A) n)), some (.int (cnc (a_s A) n 8)), some (.int (nI lg)), some (.int (a_s A 76)), none, none, none, none, none, none] [.int (vSample A (nI lg) 0)] S1 e6 (0, 0) Q
      rw [show (vSample A (nI lg) 0) = (-10000009) from hlg0]
      refine m_ldc (pc' := 446) dL_isRight_444 kc_L_isRight_89 rfl ?_
      refine m_icmp_ne (tgt := 453) (pc' := 449) dL_isRight_446 (by decide) rfl (fun h446 => absurd h446 (by decide)) (fun h446 => ?_)
      refine m_iconst (pc' := 450) (v := 1) dL_isRight_449 (by decide) rfl ?_
      refine m_goto (tgt := 454) dL_isRight_450 (by decide) ?_
      refine m_istore (pc' := 456) dL_isRight_454 (by decide) rfl rfl ?_
      refine m_iload (pc' := 458) dL_isRight_456 rfl rfl ?_
      refine m_if_eq (tgt := 550) (pc' := 461) dL_isRight_458 (by decide) rfl (fun h458 => absurd h458 (by decide)) (fun h458 => ?_)
      refine m_iload_n (pc' := 462) dL_isRight_461 rfl rfl ?_
      refine m_iload_n (pc' := 463) dL_isRight_462 rfl rfl ?_
      refine m_icmp_gt (tgt := 550) (pc' := 466) dL_isRight_463 (by decide) rfl (fun h463 => absurd h463 (by rw [hy2]; exact nI_nlt hy1 (by omega))) (fun h463 => ?_)
      refine m_iload_n (pc' := 467) dL_isRight_466 rfl rfl ?_
      refine m_aload_n (pc' := 468) dL_isRight_467 rfl rfl ?_
      refine m_bipush (pc' := 470) (v := 7) dL_isRight_468 (by decide) rfl ?_
      refine m_callV (pc' := 473) (A := [.int 7]) (rest := [.int (sls (a_s A) n)]) (b := 0) cl_L_isRight_12 dL_isRight_470 rfl rfl (Nat.le_of_ble_eq_true rfl) ⟨by decide, by decide⟩ (by decide) rfl rfl rfl rfl ?_
      refine k_count ce6 hO (fun e7 fe7 ce7 => ?_)
      show mM G mL_isRight 473 [some (.ref 0), some (.int (nI n)), some (.int (sls (a_s A) n)), some (.int (cnc (a_s A) n 8)), some (.int (nI lg)), some (.int (a_s A 76)), some (.int 1), none, none, none, none, none] [.int (vCount A 7), .int (sls (a_s A) n)] S1 e7 (0, 0) Q
      rw [show (vCount A 7) = (sls (a_s A) n) from h7]
      refine m_icmp_ne (tgt := 550) (pc' := 476) dL_isRight_473 (by decide) rfl (fun h473 => absurd h473 (fun z => z rfl)) (fun h473 => ?_)
      refine m_iload (pc' := 478) dL_isRight_476 rfl rfl ?_
      refine m_aload_n (pc' := 479) dL_isRight_478 rfl rfl ?_
      refine m_iconst (pc' := 480) (v := 0) dL_isRight_479 (by decide) rfl ?_
      refine m_callV (pc' := 483) (A := [.int 0]) (rest := [.int (a_s A 76)]) (b := 0) cl_L_isRight_12 dL_isRight_480 rfl rfl (Nat.le_of_ble_eq_true rfl) ⟨by decide, by decide⟩ (by decide) rfl rfl rfl rfl ?_
      refine k_count ce7 hO (fun e8 fe8 ce8 => ?_)
      show mM G mL_isRight 483 [some (.ref 0), some (.int (nI n)), some (.int (sls (a_s A) n)), some (.int (cnc (a_s A) n 8)), some (.int (nI lg)), some (.int (a_s A 76)), some (.int 1), none, none, none, none, none] [.int (vCount A 0), .int (a_s A 76)] S1 e8 (0, 0) Q
      rw [show (vCount A 0) = (a_s A 76) from rfl]
      refine m_icmp_ne (tgt := 550) (pc' := 486) dL_isRight_483 (by decide) rfl (fun h483 => absurd h483 (fun z => z rfl)) (fun h483 => ?_)
      refine m_iload (pc' := 488) dL_isRight_486 rfl rfl ?_
      refine m_aload_n (pc' := 489) dL_isRight_488 rfl rfl ?_
      refine m_bipush (pc' := 491) (v := 6) dL_isRight_489 (by decide) rfl ?_
      refine m_callV (pc' := 494) (A := [.int 6]) (rest := [.int (a_s A 76)]) (b := 0) cl_L_isRight_28 dL_isRight_491 rfl rfl (Nat.le_of_ble_eq_true rfl) ⟨by decide, by decide⟩ (by decide) rfl rfl rfl rfl ?_
      refine k_account ce8 hO (fun e9 fe9 ce9 => ?_)
      show mM G mL_isRight 494 [some (.ref 0), some (.int (nI n)), some (.int (sls (a_s A) n)), some (.int (cnc (a_s A) n 8)), some (.int (nI lg)), some (.int (a_s A 76)), some (.int 1), none, none, none, none, none] [.int (vAccount A 6), .int (a_s A 76)] S1 e9 (0, 0) Q
      rw [show (vAccount A 6) = (a_s A 76) from hI.1.1.2.2.2.2.2.symm]
      refine m_icmp_ne (tgt := 550) (pc' := 497) dL_isRight_494 (by decide) rfl (fun h494 => absurd h494 (fun z => z rfl)) (fun h494 => ?_)
      refine m_aload_n (pc' := 498) dL_isRight_497 rfl rfl ?_
      refine m_bipush (pc' := 500) (v := 10) dL_isRight_498 (by decide) rfl ?_
      refine m_callV (pc' := 503) (A := [.int 10]) (rest := []) (b := 0) cl_L_isRight_12 dL_isRight_500 rfl rfl (Nat.le_of_ble_eq_true rfl) ⟨by decide, by decide⟩ (by decide) rfl rfl rfl rfl ?_
      refine k_count ce9 hO (fun e10 fe10 ce10 => ?_)
      show mM G mL_isRight 503 [some (.ref 0), some (.int (nI n)), some (.int (sls (a_s A) n)), some (.int (cnc (a_s A) n 8)), some (.int (nI lg)), some (.int (a_s A 76)), some (.int 1), none, none, none, none, none] [.int (vCount A 10)] S1 e10 (0, 0) Q
      refine m_aload_n (pc' := 504) dL_isRight_503 rfl rfl ?_
      refine m_bipush (pc' := 506) (v := 11) dL_isRight_504 (by decide) rfl ?_
      refine m_callV (pc' := 509) (A := [.int 11]) (rest := [.int (vCount A 10)]) (b := 0) cl_L_isRight_12 dL_isRight_506 rfl rfl (Nat.le_of_ble_eq_true rfl) ⟨by decide, by decide⟩ (by decide) rfl rfl rfl rfl ?_
      refine k_count ce10 hO (fun e11 fe11 ce11 => ?_)
      show mM G mL_isRight 509 [some (.ref 0), some (.int (nI n)), some (.int (sls (a_s A) n)), some (.int (cnc (a_s A) n 8)), some (.int (nI lg)), some (.int (a_s A 76)), some (.int 1), none, none, none, none, none] [.int (vCount A 11), .int (vCount A 10)] S1 e11 (0, 0) Q
      refine m_iadd (pc' := 510) dL_isRight_509 rfl ?_
      refine m_aload_n (pc' := 511) dL_isRight_510 rfl rfl ?_
      refine m_bipush (pc' := 513) (v := 12) dL_isRight_511 (by decide) rfl ?_
      refine m_callV (pc' := 516) (A := [.int 12]) (rest := [.int ((vCount A 10) + (vCount A 11))]) (b := 0) cl_L_isRight_12 dL_isRight_513 rfl rfl (Nat.le_of_ble_eq_true rfl) ⟨by decide, by decide⟩ (by decide) rfl rfl rfl rfl ?_
      refine k_count ce11 hO (fun e12 fe12 ce12 => ?_)
      show mM G mL_isRight 516 [some (.ref 0), some (.int (nI n)), some (.int (sls (a_s A) n)), some (.int (cnc (a_s A) n 8)), some (.int (nI lg)), some (.int (a_s A 76)), some (.int 1), none, none, none, none, none] [.int (vCount A 12), .int ((vCount A 10) + (vCount A 11))] S1 e12 (0, 0) Q
      refine m_iadd (pc' := 517) dL_isRight_516 rfl ?_
      rw [show (((vCount A 10) + (vCount A 11)) + (vCount A 12)) = 8 from h8]
      refine m_bipush (pc' := 519) (v := 8) dL_isRight_517 (by decide) rfl ?_
      refine m_icmp_ne (tgt := 550) (pc' := 522) dL_isRight_519 (by decide) rfl (fun h519 => absurd h519 (by decide)) (fun h519 => ?_)
      refine m_aload_n (pc' := 523) dL_isRight_522 rfl rfl ?_
      refine m_callV (pc' := 526) (A := []) (rest := []) (b := 0) cl_L_isRight_90 dL_isRight_523 rfl rfl (Nat.le_of_ble_eq_true rfl) ⟨by decide, by decide⟩ (by decide) rfl rfl rfl rfl ?_
      refine k_groundsNeeded ce12 hO (fun e13 fe13 ce13 => ?_)
      show mM G mL_isRight 526 [some (.ref 0), some (.int (nI n)), some (.int (sls (a_s A) n)), some (.int (cnc (a_s A) n 8)), some (.int (nI lg)), some (.int (a_s A 76)), some (.int 1), none, none, none, none, none] [.int (vGrounds A)] S1 e13 (0, 0) Q
      refine m_iload_n (pc' := 527) dL_isRight_526 rfl rfl ?_
      refine m_icmp_gt (tgt := 550) (pc' := 530) dL_isRight_527 (by decide) rfl (fun h527 => absurd h527 (by rw [hg2]; exact nI_nlt hg1 (by omega))) (fun h527 => ?_)
      refine m_aload_n (pc' := 531) dL_isRight_530 rfl rfl ?_
      refine m_callV (pc' := 534) (A := []) (rest := []) (b := 0) cl_L_isRight_94 dL_isRight_531 rfl rfl (Nat.le_of_ble_eq_true rfl) ⟨by decide, by decide⟩ (by decide) rfl rfl rfl rfl ?_
      refine k_bestRule ce13 hO (fun e14 fe14 ce14 => ?_)
      show mM G mL_isRight 534 [some (.ref 0), some (.int (nI n)), some (.int (sls (a_s A) n)), some (.int (cnc (a_s A) n 8)), some (.int (nI lg)), some (.int (a_s A 76)), some (.int 1), none, none, none, none, none] [.int (vBest A)] S1 e14 (0, 0) Q
      refine m_iconst (pc' := 535) (v := (-1)) dL_isRight_534 (by decide) rfl ?_
      refine m_icmp_lt (tgt := 550) (pc' := 538) dL_isRight_535 (by decide) rfl (fun h535 => absurd h535 ((tp_best A).1)) (fun h535 => ?_)
      refine m_aload_n (pc' := 539) dL_isRight_538 rfl rfl ?_
      refine m_callV (pc' := 542) (A := []) (rest := []) (b := 0) cl_L_isRight_94 dL_isRight_539 rfl rfl (Nat.le_of_ble_eq_true rfl) ⟨by decide, by decide⟩ (by decide) rfl rfl rfl rfl ?_
      refine k_bestRule ce14 hO (fun e15 fe15 ce15 => ?_)
      show mM G mL_isRight 542 [some (.ref 0), some (.int (nI n)), some (.int (sls (a_s A) n)), some (.int (cnc (a_s A) n 8)), some (.int (nI lg)), some (.int (a_s A 76)), some (.int 1), none, none, none, none, none] [.int (vBest A)] S1 e15 (0, 0) Q
      refine m_iconst (pc' := 543) (v := 3) dL_isRight_542 (by decide) rfl ?_
      refine m_icmp_gt (tgt := 550) (pc' := 546) dL_isRight_543 (by decide) rfl (fun h543 => absurd h543 ((tp_best A).2)) (fun h543 => ?_)
      refine m_iconst (pc' := 547) (v := 1) dL_isRight_546 (by decide) rfl ?_
      refine m_goto (tgt := 551) dL_isRight_547 (by decide) ?_
      refine m_iret dL_isRight_551 rfl (by decide) ⟨by decide, by decide⟩ ?_
      exact hQ _ ce15
    · skip
      refine m_aload_n (pc' := 428) dL_isRight_427 rfl rfl ?_
      refine m_iconst (pc' := 429) (v := 4) dL_isRight_428 (by decide) rfl ?_
      refine m_callV (pc' := 432) (A := [.int 4]) (rest := []) (b := 0) cl_L_isRight_28 dL_isRight_429 rfl rfl (Nat.le_of_ble_eq_true rfl) ⟨by decide, by decide⟩ (by decide) rfl rfl rfl rfl ?_
      refine k_account ce5 hO (fun e16 fe16 ce16 => ?_)
      show mM G mL_isRight 432 [some (.ref 0), some (.int (nI n)), some (.int (sls (a_s A) n)), some (.int (cnc (a_s A) n 8)), some (.int (nI lg)), some (.int (a_s A 76)), none, none, none, none, none, none] [.int (vAccount A 4)] S1 e16 (0, 0) Q
      rw [show (vAccount A 4) = (nI m) from hm4]
      refine m_iload (pc' := 434) dL_isRight_432 rfl rfl ?_
      refine m_icmp_ne (tgt := 453) (pc' := 437) dL_isRight_434 (by decide) rfl (fun h434 => absurd h434 (fun z => z (congrArg nI (hl33.resolve_left (fun z => h424 (congrArg nI z)))))) (fun h434 => ?_)
      refine m_aload_n (pc' := 438) dL_isRight_437 rfl rfl ?_
      refine m_iload (pc' := 440) dL_isRight_438 rfl rfl ?_
      refine m_iconst (pc' := 441) (v := 0) dL_isRight_440 (by decide) rfl ?_
      refine m_callV (pc' := 444) (A := [.int (nI lg), .int 0]) (rest := []) (b := 0) cl_L_isRight_25 dL_isRight_441 rfl rfl (Nat.le_of_ble_eq_true rfl) ⟨by decide, by decide⟩ (by decide) rfl rfl rfl rfl ?_
      refine k_sample ce16 hO (fun e17 fe17 ce17 => ?_)
      show mM G mL_isRight 444 [some (.ref 0), some (.int (nI n)), some (.int (sls (a_s A) n)), some (.int (cnc (a_s A) n 8)), some (.int (nI lg)), some (.int (a_s A 76)), none, none, none, none, none, none] [.int (vSample A (nI lg) 0)] S1 e17 (0, 0) Q
      rw [show (vSample A (nI lg) 0) = (-10000009) from hlg0]
      refine m_ldc (pc' := 446) dL_isRight_444 kc_L_isRight_89 rfl ?_
      refine m_icmp_ne (tgt := 453) (pc' := 449) dL_isRight_446 (by decide) rfl (fun h446 => absurd h446 (by decide)) (fun h446 => ?_)
      refine m_iconst (pc' := 450) (v := 1) dL_isRight_449 (by decide) rfl ?_
      refine m_goto (tgt := 454) dL_isRight_450 (by decide) ?_
      refine m_istore (pc' := 456) dL_isRight_454 (by decide) rfl rfl ?_
      refine m_iload (pc' := 458) dL_isRight_456 rfl rfl ?_
      refine m_if_eq (tgt := 550) (pc' := 461) dL_isRight_458 (by decide) rfl (fun h458 => absurd h458 (by decide)) (fun h458 => ?_)
      refine m_iload_n (pc' := 462) dL_isRight_461 rfl rfl ?_
      refine m_iload_n (pc' := 463) dL_isRight_462 rfl rfl ?_
      refine m_icmp_gt (tgt := 550) (pc' := 466) dL_isRight_463 (by decide) rfl (fun h463 => absurd h463 (by rw [hy2]; exact nI_nlt hy1 (by omega))) (fun h463 => ?_)
      refine m_iload_n (pc' := 467) dL_isRight_466 rfl rfl ?_
      refine m_aload_n (pc' := 468) dL_isRight_467 rfl rfl ?_
      refine m_bipush (pc' := 470) (v := 7) dL_isRight_468 (by decide) rfl ?_
      refine m_callV (pc' := 473) (A := [.int 7]) (rest := [.int (sls (a_s A) n)]) (b := 0) cl_L_isRight_12 dL_isRight_470 rfl rfl (Nat.le_of_ble_eq_true rfl) ⟨by decide, by decide⟩ (by decide) rfl rfl rfl rfl ?_
      refine k_count ce17 hO (fun e18 fe18 ce18 => ?_)
      show mM G mL_isRight 473 [some (.ref 0), some (.int (nI n)), some (.int (sls (a_s A) n)), some (.int (cnc (a_s A) n 8)), some (.int (nI lg)), some (.int (a_s A 76)), some (.int 1), none, none, none, none, none] [.int (vCount A 7), .int (sls (a_s A) n)] S1 e18 (0, 0) Q
      rw [show (vCount A 7) = (sls (a_s A) n) from h7]
      refine m_icmp_ne (tgt := 550) (pc' := 476) dL_isRight_473 (by decide) rfl (fun h473 => absurd h473 (fun z => z rfl)) (fun h473 => ?_)
      refine m_iload (pc' := 478) dL_isRight_476 rfl rfl ?_
      refine m_aload_n (pc' := 479) dL_isRight_478 rfl rfl ?_
      refine m_iconst (pc' := 480) (v := 0) dL_isRight_479 (by decide) rfl ?_
      refine m_callV (pc' := 483) (A := [.int 0]) (rest := [.int (a_s A 76)]) (b := 0) cl_L_isRight_12 dL_isRight_480 rfl rfl (Nat.le_of_ble_eq_true rfl) ⟨by decide, by decide⟩ (by decide) rfl rfl rfl rfl ?_
      refine k_count ce18 hO (fun e19 fe19 ce19 => ?_)
      show mM G mL_isRight 483 [some (.ref 0), some (.int (nI n)), some (.int (sls (a_s A) n)), some (.int (cnc (a_s A) n 8)), some (.int (nI lg)), some (.int (a_s A 76)), some (.int 1), none, none, none, none, none] [.int (vCount A 0), .int (a_s A 76)] S1 e19 (0, 0) Q
      rw [show (vCount A 0) = (a_s A 76) from rfl]
      refine m_icmp_ne (tgt := 550) (pc' := 486) dL_isRight_483 (by decide) rfl (fun h483 => absurd h483 (fun z => z rfl)) (fun h483 => ?_)
      refine m_iload (pc' := 488) dL_isRight_486 rfl rfl ?_
      refine m_aload_n (pc' := 489) dL_isRight_488 rfl rfl ?_
      refine m_bipush (pc' := 491) (v := 6) dL_isRight_489 (by decide) rfl ?_
      refine m_callV (pc' := 494) (A := [.int 6]) (rest := [.int (a_s A 76)]) (b := 0) cl_L_isRight_28 dL_isRight_491 rfl rfl (Nat.le_of_ble_eq_true rfl) ⟨by decide, by decide⟩ (by decide) rfl rfl rfl rfl ?_
      refine k_account ce19 hO (fun e20 fe20 ce20 => ?_)
      show mM G mL_isRight 494 [some (.ref 0), some (.int (nI n)), some (.int (sls (a_s A) n)), some (.int (cnc (a_s A) n 8)), some (.int (nI lg)), some (.int (a_s A 76)), some (.int 1), none, none, none, none, none] [.int (vAccount A 6), .int (a_s A 76)] S1 e20 (0, 0) Q
      rw [show (vAccount A 6) = (a_s A 76) from hI.1.1.2.2.2.2.2.symm]
      refine m_icmp_ne (tgt := 550) (pc' := 497) dL_isRight_494 (by decide) rfl (fun h494 => absurd h494 (fun z => z rfl)) (fun h494 => ?_)
      refine m_aload_n (pc' := 498) dL_isRight_497 rfl rfl ?_
      refine m_bipush (pc' := 500) (v := 10) dL_isRight_498 (by decide) rfl ?_
      refine m_callV (pc' := 503) (A := [.int 10]) (rest := []) (b := 0) cl_L_isRight_12 dL_isRight_500 rfl rfl (Nat.le_of_ble_eq_true rfl) ⟨by decide, by decide⟩ (by decide) rfl rfl rfl rfl ?_
      refine k_count ce20 hO (fun e21 fe21 ce21 => ?_)
      show mM G mL_isRight 503 [some (.ref 0), some (.int (nI n)), some (.int (sls (a_s A) n)), some (.int (cnc (a_s A) n 8)), some (.int (nI lg)), some (.int (a_s A 76)), some (.int 1), none, none, none, none, none] [.int (vCount A 10)] S1 e21 (0, 0) Q
      refine m_aload_n (pc' := 504) dL_isRight_503 rfl rfl ?_
      refine m_bipush (pc' := 506) (v := 11) dL_isRight_504 (by decide) rfl ?_
      refine m_callV (pc' := 509) (A := [.int 11]) (rest := [.int (vCount A 10)]) (b := 0) cl_L_isRight_12 dL_isRight_506 rfl rfl (Nat.le_of_ble_eq_true rfl) ⟨by decide, by decide⟩ (by decide) rfl rfl rfl rfl ?_
      refine k_count ce21 hO (fun e22 fe22 ce22 => ?_)
      show mM G mL_isRight 509 [some (.ref 0), some (.int (nI n)), some (.int (sls (a_s A) n)), some (.int (cnc (a_s A) n 8)), some (.int (nI lg)), some (.int (a_s A 76)), some (.int 1), none, none, none, none, none] [.int (vCount A 11), .int (vCount A 10)] S1 e22 (0, 0) Q
      refine m_iadd (pc' := 510) dL_isRight_509 rfl ?_
      refine m_aload_n (pc' := 511) dL_isRight_510 rfl rfl ?_
      refine m_bipush (pc' := 513) (v := 12) dL_isRight_511 (by decide) rfl ?_
      refine m_callV (pc' := 516) (A := [.int 12]) (rest := [.int ((vCount A 10) + (vCount A 11))]) (b := 0) cl_L_isRight_12 dL_isRight_513 rfl rfl (Nat.le_of_ble_eq_true rfl) ⟨by decide, by decide⟩ (by decide) rfl rfl rfl rfl ?_
      refine k_count ce22 hO (fun e23 fe23 ce23 => ?_)
      show mM G mL_isRight 516 [some (.ref 0), some (.int (nI n)), some (.int (sls (a_s A) n)), some (.int (cnc (a_s A) n 8)), some (.int (nI lg)), some (.int (a_s A 76)), some (.int 1), none, none, none, none, none] [.int (vCount A 12), .int ((vCount A 10) + (vCount A 11))] S1 e23 (0, 0) Q
      refine m_iadd (pc' := 517) dL_isRight_516 rfl ?_
      rw [show (((vCount A 10) + (vCount A 11)) + (vCount A 12)) = 8 from h8]
      refine m_bipush (pc' := 519) (v := 8) dL_isRight_517 (by decide) rfl ?_
      refine m_icmp_ne (tgt := 550) (pc' := 522) dL_isRight_519 (by decide) rfl (fun h519 => absurd h519 (by decide)) (fun h519 => ?_)
      refine m_aload_n (pc' := 523) dL_isRight_522 rfl rfl ?_
      refine m_callV (pc' := 526) (A := []) (rest := []) (b := 0) cl_L_isRight_90 dL_isRight_523 rfl rfl (Nat.le_of_ble_eq_true rfl) ⟨by decide, by decide⟩ (by decide) rfl rfl rfl rfl ?_
      refine k_groundsNeeded ce23 hO (fun e24 fe24 ce24 => ?_)
      show mM G mL_isRight 526 [some (.ref 0), some (.int (nI n)), some (.int (sls (a_s A) n)), some (.int (cnc (a_s A) n 8)), some (.int (nI lg)), some (.int (a_s A 76)), some (.int 1), none, none, none, none, none] [.int (vGrounds A)] S1 e24 (0, 0) Q
      refine m_iload_n (pc' := 527) dL_isRight_526 rfl rfl ?_
      refine m_icmp_gt (tgt := 550) (pc' := 530) dL_isRight_527 (by decide) rfl (fun h527 => absurd h527 (by rw [hg2]; exact nI_nlt hg1 (by omega))) (fun h527 => ?_)
      refine m_aload_n (pc' := 531) dL_isRight_530 rfl rfl ?_
      refine m_callV (pc' := 534) (A := []) (rest := []) (b := 0) cl_L_isRight_94 dL_isRight_531 rfl rfl (Nat.le_of_ble_eq_true rfl) ⟨by decide, by decide⟩ (by decide) rfl rfl rfl rfl ?_
      refine k_bestRule ce24 hO (fun e25 fe25 ce25 => ?_)
      show mM G mL_isRight 534 [some (.ref 0), some (.int (nI n)), some (.int (sls (a_s A) n)), some (.int (cnc (a_s A) n 8)), some (.int (nI lg)), some (.int (a_s A 76)), some (.int 1), none, none, none, none, none] [.int (vBest A)] S1 e25 (0, 0) Q
      refine m_iconst (pc' := 535) (v := (-1)) dL_isRight_534 (by decide) rfl ?_
      refine m_icmp_lt (tgt := 550) (pc' := 538) dL_isRight_535 (by decide) rfl (fun h535 => absurd h535 ((tp_best A).1)) (fun h535 => ?_)
      refine m_aload_n (pc' := 539) dL_isRight_538 rfl rfl ?_
      refine m_callV (pc' := 542) (A := []) (rest := []) (b := 0) cl_L_isRight_94 dL_isRight_539 rfl rfl (Nat.le_of_ble_eq_true rfl) ⟨by decide, by decide⟩ (by decide) rfl rfl rfl rfl ?_
      refine k_bestRule ce25 hO (fun e26 fe26 ce26 => ?_)
      show mM G mL_isRight 542 [some (.ref 0), some (.int (nI n)), some (.int (sls (a_s A) n)), some (.int (cnc (a_s A) n 8)), some (.int (nI lg)), some (.int (a_s A 76)), some (.int 1), none, none, none, none, none] [.int (vBest A)] S1 e26 (0, 0) Q
      refine m_iconst (pc' := 543) (v := 3) dL_isRight_542 (by decide) rfl ?_
      refine m_icmp_gt (tgt := 550) (pc' := 546) dL_isRight_543 (by decide) rfl (fun h543 => absurd h543 ((tp_best A).2)) (fun h543 => ?_)
      refine m_iconst (pc' := 547) (v := 1) dL_isRight_546 (by decide) rfl ?_
      refine m_goto (tgt := 551) dL_isRight_547 (by decide) ?_
      refine m_iret dL_isRight_551 rfl (by decide) ⟨by decide, by decide⟩ ?_
      exact hQ _ ce26
  have J3 : ∀ (n0 : Nat) (k : Nat) (d1 : Dt) (_ : lg ≤ k + n0) (_ : 1 ≤ k) (_ : k ≤ 40) (hC1 : CR d1 A), mM G mL_isRight 344 [some (.ref 0), some (.int (nI n)), some (.int (sls (a_s A) n)), some (.int (cnc (a_s A) n 8)), some (.int (nI lg)), some (.int (nI k)), none, none, none, none, none, none] [] S1 d1 (0, 0) Q := by
    intro n0
    induction n0 with
    | zero =>
      intro k d1 hk hk1 hk40 hC1
      refine m_iload (pc' := 346) dL_isRight_344 rfl rfl ?_
      refine m_iload (pc' := 348) dL_isRight_346 rfl rfl ?_
      refine m_icmp_ge (tgt := 378) (pc' := 351) dL_isRight_348 (by decide) rfl (fun h348 => ?_) (fun h348 => (h348 (nI_le (by omega) (by omega))).elim)
      refine m_drop 5 (lo' := [some (.ref 0), some (.int (nI n)), some (.int (sls (a_s A) n)), some (.int (cnc (a_s A) n 8)), some (.int (nI lg)), none, none, none, none, none, none, none]) rfl ?_
      exact K378 _ hC1
    | succ n0 ih =>
      intro k d1 hk hk1 hk40 hC1
      refine m_iload (pc' := 346) dL_isRight_344 rfl rfl ?_
      refine m_iload (pc' := 348) dL_isRight_346 rfl rfl ?_
      refine m_icmp_ge (tgt := 378) (pc' := 351) dL_isRight_348 (by decide) rfl (fun h348 => ?_) (fun h348 => ?_)
      · skip
        refine m_drop 5 (lo' := [some (.ref 0), some (.int (nI n)), some (.int (sls (a_s A) n)), some (.int (cnc (a_s A) n 8)), some (.int (nI lg)), none, none, none, none, none, none, none]) rfl ?_
        exact K378 _ hC1
      · skip
        refine m_aload_n (pc' := 352) dL_isRight_351 rfl rfl ?_
        refine m_iload (pc' := 354) dL_isRight_352 rfl rfl ?_
        refine m_iconst (pc' := 355) (v := 1) dL_isRight_354 (by decide) rfl ?_
        refine m_callV (pc' := 358) (A := [.int (nI k), .int 1]) (rest := []) (b := 0) cl_L_isRight_25 dL_isRight_355 rfl rfl (Nat.le_of_ble_eq_true rfl) ⟨by decide, by decide⟩ (by decide) rfl rfl rfl rfl ?_
        refine k_sample hC1 hO (fun e1 fe1 ce1 => ?_)
        show mM G mL_isRight 358 [some (.ref 0), some (.int (nI n)), some (.int (sls (a_s A) n)), some (.int (cnc (a_s A) n 8)), some (.int (nI lg)), some (.int (nI k)), none, none, none, none, none, none] [.int (vSample A (nI k) 1)] S1 e1 (0, 0) Q
        refine m_aload_n (pc' := 359) dL_isRight_358 rfl rfl ?_
        refine m_iload (pc' := 361) dL_isRight_359 rfl rfl ?_
        refine m_iconst (pc' := 362) (v := 1) dL_isRight_361 (by decide) rfl ?_
        refine m_isub (pc' := 363) dL_isRight_362 rfl ?_
        refine m_iconst (pc' := 364) (v := 1) dL_isRight_363 (by decide) rfl ?_
        refine m_callV (pc' := 367) (A := [.int ((nI k) - 1), .int 1]) (rest := [.int (vSample A (nI k) 1)]) (b := 0) cl_L_isRight_25 dL_isRight_364 rfl rfl (Nat.le_of_ble_eq_true rfl) ⟨by decide, by decide⟩ (by decide) rfl rfl rfl rfl ?_
        refine k_sample ce1 hO (fun e2 fe2 ce2 => ?_)
        show mM G mL_isRight 367 [some (.ref 0), some (.int (nI n)), some (.int (sls (a_s A) n)), some (.int (cnc (a_s A) n 8)), some (.int (nI lg)), some (.int (nI k)), none, none, none, none, none, none] [.int (vSample A ((nI k) - 1) 1), .int (vSample A (nI k) 1)] S1 e2 (0, 0) Q
        refine m_icmp_lt (tgt := 372) (pc' := 370) dL_isRight_367 (by decide) rfl (fun h367 => ?_) (fun h367 => (h367 (hmono k hk1 (Nat.not_le.mp (fun z => h348 (nI_le z (by omega)))))).elim)
        refine m_iinc (pc' := 375) dL_isRight_372 rfl (by decide) (v := nI (k + 1)) (nI_1 k) rfl rfl ?_
        refine m_goto (tgt := 344) dL_isRight_375 (by decide) ?_
        have hklg : k < lg := Nat.not_le.mp (fun z => h348 (nI_le z (by omega)))
        exact ih (k + 1) _ (by omega) (by omega) (by omega) ce2
  have J2 : ∀ (n0 : Nat) (k : Nat) (d1 : Dt) (_ : k + n0 = 8) (hC1 : CR d1 A), mM G mL_isRight 259 [some (.ref 0), some (.int (nI n)), some (.int (sls (a_s A) n)), some (.int (cnc (a_s A) n k)), some (.int (nI k)), none, none, none, none, none, none, none] [] S1 d1 (0, 0) Q := by
    intro n0
    induction n0 with
    | zero =>
      intro k d1 hkk hC1
      refine m_iload (pc' := 261) dL_isRight_259 rfl rfl ?_
      refine m_bipush (pc' := 263) (v := 8) dL_isRight_261 (by decide) rfl ?_
      refine m_icmp_ge (tgt := 334) (pc' := 266) dL_isRight_263 (by decide) rfl (fun h263 => ?_) (fun h263 => (h263 (nI_le (a := 8) (by omega) (by omega))).elim)
      refine m_aload_n (pc' := 335) dL_isRight_334 rfl rfl ?_
      refine m_iconst (pc' := 336) (v := 5) dL_isRight_335 (by decide) rfl ?_
      refine m_callV (pc' := 339) (A := [.int 5]) (rest := []) (b := 0) cl_L_isRight_12 dL_isRight_336 rfl rfl (Nat.le_of_ble_eq_true rfl) ⟨by decide, by decide⟩ (by decide) rfl rfl rfl rfl ?_
      refine k_count hC1 hO (fun e1 fe1 ce1 => ?_)
      show mM G mL_isRight 339 [some (.ref 0), some (.int (nI n)), some (.int (sls (a_s A) n)), some (.int (cnc (a_s A) n k)), some (.int (nI k)), none, none, none, none, none, none, none] [.int (vCount A 5)] S1 e1 (0, 0) Q
      rw [show (vCount A 5) = (nI lg) from hlg]
      refine m_istore (pc' := 341) dL_isRight_339 (by decide) rfl rfl ?_
      refine m_iconst (pc' := 342) (v := 1) dL_isRight_341 (by decide) rfl ?_
      refine m_istore (pc' := 344) dL_isRight_342 (by decide) rfl rfl ?_
      obtain rfl : k = 8 := by omega
      exact J3 33 1 _ (by omega) (by omega) (by omega) ce1
    | succ n0 ih =>
      intro k d1 hkk hC1
      obtain ⟨v, v1, v2⟩ := tp_val hI (show k < 8 by omega)
      refine m_iload (pc' := 261) dL_isRight_259 rfl rfl ?_
      refine m_bipush (pc' := 263) (v := 8) dL_isRight_261 (by decide) rfl ?_
      refine m_icmp_ge (tgt := 334) (pc' := 266) dL_isRight_263 (by decide) rfl (fun h263 => absurd h263 (nI_ge (b := 8) (by omega) (by omega))) (fun h263 => ?_)
      refine m_iload_n (pc' := 267) dL_isRight_266 rfl rfl ?_
      refine m_aload_n (pc' := 268) dL_isRight_267 rfl rfl ?_
      refine m_iload (pc' := 270) dL_isRight_268 rfl rfl ?_
      refine m_bipush (pc' := 272) (v := 7) dL_isRight_270 (by decide) rfl ?_
      refine m_callV (pc' := 275) (A := [.int (nI k), .int 7]) (rest := [.int (cnc (a_s A) n k)]) (b := 0) cl_L_isRight_18 dL_isRight_272 rfl rfl (Nat.le_of_ble_eq_true rfl) ⟨by decide, by decide⟩ (by decide) rfl rfl rfl rfl ?_
      refine k_channel hC1 hO (fun e1 fe1 ce1 => ?_)
      show mM G mL_isRight 275 [some (.ref 0), some (.int (nI n)), some (.int (sls (a_s A) n)), some (.int (cnc (a_s A) n k)), some (.int (nI k)), none, none, none, none, none, none, none] [.int (vChannel A (nI k) 7), .int (cnc (a_s A) n k)] S1 e1 (0, 0) Q
      rw [show (vChannel A (nI k) 7) = (cen (a_s A) (nI k) n) from (tp_c7 (by omega)).trans (by rw [hn])]
      refine m_iadd (pc' := 276) dL_isRight_275 rfl ?_
      refine m_istore_n (pc' := 277) dL_isRight_276 (by decide) rfl rfl ?_
      refine m_aload_n (pc' := 278) dL_isRight_277 rfl rfl ?_
      refine m_iload (pc' := 280) dL_isRight_278 rfl rfl ?_
      refine m_aload_n (pc' := 281) dL_isRight_280 rfl rfl ?_
      refine m_iconst (pc' := 282) (v := 0) dL_isRight_281 (by decide) rfl ?_
      refine m_callV (pc' := 285) (A := [.int 0]) (rest := [.int (nI k), .ref 0]) (b := 0) cl_L_isRight_12 dL_isRight_282 rfl rfl (Nat.le_of_ble_eq_true rfl) ⟨by decide, by decide⟩ (by decide) rfl rfl rfl rfl ?_
      refine k_count ce1 hO (fun e2 fe2 ce2 => ?_)
      show mM G mL_isRight 285 [some (.ref 0), some (.int (nI n)), some (.int (sls (a_s A) n)), some (.int ((cnc (a_s A) n k) + (cen (a_s A) (nI k) n))), some (.int (nI k)), none, none, none, none, none, none, none] [.int (vCount A 0), .int (nI k), .ref 0] S1 e2 (0, 0) Q
      refine m_callV (pc' := 288) (A := [.int (nI k), .int (vCount A 0)]) (rest := []) (b := 0) cl_L_isRight_86 dL_isRight_285 rfl rfl (Nat.le_of_ble_eq_true rfl) ⟨by decide, by decide⟩ (by decide) rfl rfl rfl rfl ?_
      refine k_value ce2 hO (fun e3 fe3 ce3 => ?_)
      show mM G mL_isRight 288 [some (.ref 0), some (.int (nI n)), some (.int (sls (a_s A) n)), some (.int ((cnc (a_s A) n k) + (cen (a_s A) (nI k) n))), some (.int (nI k)), none, none, none, none, none, none, none] [.int (vValue A (nI k) (vCount A 0))] S1 e3 (0, 0) Q
      rw [show (vValue A (nI k) (vCount A 0)) = (nI v) from v2]
      refine m_istore (pc' := 290) dL_isRight_288 (by decide) rfl rfl ?_
      refine m_iload (pc' := 292) dL_isRight_290 rfl rfl ?_
      refine m_if_lt (tgt := 326) (pc' := 295) dL_isRight_292 (by decide) rfl (fun h292 => absurd h292 (nI_pos (by omega))) (fun h292 => ?_)
      refine m_iload (pc' := 297) dL_isRight_295 rfl rfl ?_
      refine m_sipush (pc' := 300) (v := 4095) dL_isRight_297 (by decide) rfl ?_
      refine m_icmp_gt (tgt := 326) (pc' := 303) dL_isRight_300 (by decide) rfl (fun h300 => absurd h300 (nI_nlt (a := 4095) v1 (by decide))) (fun h300 => ?_)
      refine m_aload_n (pc' := 304) dL_isRight_303 rfl rfl ?_
      refine m_iload (pc' := 306) dL_isRight_304 rfl rfl ?_
      refine m_bipush (pc' := 308) (v := 6) dL_isRight_306 (by decide) rfl ?_
      refine m_callV (pc' := 311) (A := [.int (nI k), .int 6]) (rest := []) (b := 0) cl_L_isRight_18 dL_isRight_308 rfl rfl (Nat.le_of_ble_eq_true rfl) ⟨by decide, by decide⟩ (by decide) rfl rfl rfl rfl ?_
      refine k_channel ce3 hO (fun e4 fe4 ce4 => ?_)
      show mM G mL_isRight 311 [some (.ref 0), some (.int (nI n)), some (.int (sls (a_s A) n)), some (.int ((cnc (a_s A) n k) + (cen (a_s A) (nI k) n))), some (.int (nI k)), some (.int (nI v)), none, none, none, none, none, none] [.int (vChannel A (nI k) 6)] S1 e4 (0, 0) Q
      refine m_ldc (pc' := 313) dL_isRight_311 kc_L_isRight_89 rfl ?_
      refine m_icmp_eq (tgt := 328) (pc' := 316) dL_isRight_313 (by decide) rfl (fun h313 => ?_) (fun h313 => ?_)
      · skip
        refine m_iinc (pc' := 331) dL_isRight_328 rfl (by decide) (v := nI (k + 1)) (nI_1 k) rfl rfl ?_
        refine m_goto (tgt := 259) dL_isRight_331 (by decide) ?_
        refine m_drop 5 (lo' := [some (.ref 0), some (.int (nI n)), some (.int (sls (a_s A) n)), some (.int ((cnc (a_s A) n k) + (cen (a_s A) (nI k) n))), some (.int (nI (k + 1))), none, none, none, none, none, none, none]) rfl ?_
        exact ih (k + 1) _ (by omega) ce4
      · skip
        refine m_aload_n (pc' := 317) dL_isRight_316 rfl rfl ?_
        refine m_iload (pc' := 319) dL_isRight_317 rfl rfl ?_
        refine m_iconst (pc' := 320) (v := 5) dL_isRight_319 (by decide) rfl ?_
        refine m_callV (pc' := 323) (A := [.int (nI k), .int 5]) (rest := []) (b := 0) cl_L_isRight_18 dL_isRight_320 rfl rfl (Nat.le_of_ble_eq_true rfl) ⟨by decide, by decide⟩ (by decide) rfl rfl rfl rfl ?_
        refine k_channel ce4 hO (fun e5 fe5 ce5 => ?_)
        show mM G mL_isRight 323 [some (.ref 0), some (.int (nI n)), some (.int (sls (a_s A) n)), some (.int ((cnc (a_s A) n k) + (cen (a_s A) (nI k) n))), some (.int (nI k)), some (.int (nI v)), none, none, none, none, none, none] [.int (vChannel A (nI k) 5)] S1 e5 (0, 0) Q
        refine m_if_ge (tgt := 328) (pc' := 326) dL_isRight_323 (by decide) rfl (fun h323 => ?_) (fun h323 => (h323 (Int32.not_lt.mp (tp_chan hO (show k < 8 by omega) h313))).elim)
        refine m_iinc (pc' := 331) dL_isRight_328 rfl (by decide) (v := nI (k + 1)) (nI_1 k) rfl rfl ?_
        refine m_goto (tgt := 259) dL_isRight_331 (by decide) ?_
        refine m_drop 5 (lo' := [some (.ref 0), some (.int (nI n)), some (.int (sls (a_s A) n)), some (.int ((cnc (a_s A) n k) + (cen (a_s A) (nI k) n))), some (.int (nI (k + 1))), none, none, none, none, none, none, none]) rfl ?_
        exact ih (k + 1) _ (by omega) ce5
  have J1 : ∀ (n0 : Nat) (k : Nat) (d1 : Dt) (_ : k + n0 = n) (hC1 : CR d1 A), mM G mL_isRight 13 [some (.ref 0), some (.int (nI n)), some (.int (sls (a_s A) k)), some (.int 0), some (.int (nI k)), none, none, none, none, none, none, none] [] S1 d1 (0, 0) Q := by
    intro n0
    induction n0 with
    | zero =>
      intro k d1 hkk hC1
      refine m_iload (pc' := 15) dL_isRight_13 rfl rfl ?_
      refine m_iload_n (pc' := 16) dL_isRight_15 rfl rfl ?_
      refine m_icmp_ge (tgt := 256) (pc' := 19) dL_isRight_16 (by decide) rfl (fun h16 => ?_) (fun h16 => (h16 (nI_le (a := n) (by omega) (by omega))).elim)
      refine m_iconst (pc' := 257) (v := 0) dL_isRight_256 (by decide) rfl ?_
      refine m_istore (pc' := 259) dL_isRight_257 (by decide) rfl rfl ?_
      obtain rfl : k = n := by omega
      exact J2 8 0 _ (by omega) hC1
    | succ n0 ih =>
      intro k d1 hkk hC1
      have hkA : k < nn (a_s A 43) := by omega
      have hw := tp_why hO hkA
      obtain ⟨hr0, hr1⟩ := tp_er' hO hkA
      obtain ⟨y, y1, y2⟩ := tp_stl hO hkA
      have hq7 := (okL_q (okL_n hO.1.1) hkA).2
      have hp9 := (okL_p (okL_n hO.1.1) hkA).2
      have K208 : ∀ (d1 : Dt) (cl : Int32) (hC1 : CR d1 A) (hcl : ¬ cl = 0 → vWould A (nI k) 1 = 0), mM G mL_isRight 208 [some (.ref 0), some (.int (nI n)), some (.int (sls (a_s A) k + (a_s A (45 + 2 * k) + 1))), some (.int 0), some (.int (nI k)), some (.int (vWould A (nI k) 2)), some (.int (vWould A (nI k) 1)), some (.int (vWould A (nI k) 0)), some (.int (vWhy A (nI k))), some (.int (nI (pn (a_s A) k))), some (.int cl), none] [] S1 d1 (0, 0) Q := by
        intro d1 cl hC1 hcl
        refine m_aload_n (pc' := 209) dL_isRight_208 rfl rfl ?_
        refine m_iload (pc' := 211) dL_isRight_209 rfl rfl ?_
        refine m_iload (pc' := 213) dL_isRight_211 rfl rfl ?_
        refine m_callS (pc' := 216) (A := [.int (vWould A (nI k) 2)]) (rest := [.int (nI k), .ref 0]) cl_L_isRight_80 dL_isRight_213 rfl rfl (Nat.le_of_ble_eq_true rfl) ⟨by decide, by decide⟩ rfl rfl ?_
        refine lw_size ?_
        show mM G mL_isRight 216 [some (.ref 0), some (.int (nI n)), some (.int (sls (a_s A) k + (a_s A (45 + 2 * k) + 1))), some (.int 0), some (.int (nI k)), some (.int (vWould A (nI k) 2)), some (.int (vWould A (nI k) 1)), some (.int (vWould A (nI k) 0)), some (.int (vWhy A (nI k))), some (.int (nI (pn (a_s A) k))), some (.int cl), none] [.int (siz (vWould A (nI k) 2)), .int (nI k), .ref 0] S1 d1 (0, 0) Q
        refine m_callV (pc' := 219) (A := [.int (nI k), .int (siz (vWould A (nI k) 2))]) (rest := []) (b := 0) cl_L_isRight_83 dL_isRight_216 rfl rfl (Nat.le_of_ble_eq_true rfl) ⟨by decide, by decide⟩ (by decide) rfl rfl rfl rfl ?_
        refine k_settleFor hC1 hO (fun e1 fe1 ce1 => ?_)
        show mM G mL_isRight 219 [some (.ref 0), some (.int (nI n)), some (.int (sls (a_s A) k + (a_s A (45 + 2 * k) + 1))), some (.int 0), some (.int (nI k)), some (.int (vWould A (nI k) 2)), some (.int (vWould A (nI k) 1)), some (.int (vWould A (nI k) 0)), some (.int (vWhy A (nI k))), some (.int (nI (pn (a_s A) k))), some (.int cl), none] [.int (vSettle A (nI k) (siz (vWould A (nI k) 2)))] S1 e1 (0, 0) Q
        rw [show (vSettle A (nI k) (siz (vWould A (nI k) 2))) = (nI y) from y2]
        refine m_istore (pc' := 221) dL_isRight_219 (by decide) rfl rfl ?_
        refine m_iload (pc' := 223) dL_isRight_221 rfl rfl ?_
        refine m_if_eq (tgt := 231) (pc' := 226) dL_isRight_223 (by decide) rfl (fun h223 => ?_) (fun h223 => ?_)
        · skip
          refine m_iload (pc' := 233) dL_isRight_231 rfl rfl ?_
          refine m_if_lt (tgt := 248) (pc' := 236) dL_isRight_233 (by decide) rfl (fun h233 => absurd h233 (nI_pos (by omega))) (fun h233 => ?_)
          refine m_iload (pc' := 238) dL_isRight_236 rfl rfl ?_
          refine m_aload_n (pc' := 239) dL_isRight_238 rfl rfl ?_
          refine m_iload (pc' := 241) dL_isRight_239 rfl rfl ?_
          refine m_iconst (pc' := 242) (v := 1) dL_isRight_241 (by decide) rfl ?_
          refine m_callV (pc' := 245) (A := [.int (nI k), .int 1]) (rest := [.int (nI y)]) (b := 0) cl_L_isRight_22 dL_isRight_242 rfl rfl (Nat.le_of_ble_eq_true rfl) ⟨by decide, by decide⟩ (by decide) rfl rfl rfl rfl ?_
          refine k_entry ce1 hO (fun e2 fe2 ce2 => ?_)
          show mM G mL_isRight 245 [some (.ref 0), some (.int (nI n)), some (.int (sls (a_s A) k + (a_s A (45 + 2 * k) + 1))), some (.int 0), some (.int (nI k)), some (.int (vWould A (nI k) 2)), some (.int (vWould A (nI k) 1)), some (.int (vWould A (nI k) 0)), some (.int (vWhy A (nI k))), some (.int (nI (pn (a_s A) k))), some (.int cl), some (.int (nI y))] [.int (vEntry A (nI k) 1), .int (nI y)] S1 e2 (0, 0) Q
          rw [show (vEntry A (nI k) 1) = (nI (qn (a_s A) k)) from tp_e1q hO hkA]
          refine m_icmp_le (tgt := 250) (pc' := 248) dL_isRight_245 (by decide) rfl (fun h245 => ?_) (fun h245 => (h245 (nI_le y1 (by omega))).elim)
          refine m_iinc (pc' := 253) dL_isRight_250 rfl (by decide) (v := nI (k + 1)) (nI_1 k) rfl rfl ?_
          refine m_goto (tgt := 13) dL_isRight_253 (by decide) ?_
          refine m_drop 5 (lo' := [some (.ref 0), some (.int (nI n)), some (.int (sls (a_s A) k + (a_s A (45 + 2 * k) + 1))), some (.int 0), some (.int (nI (k + 1))), none, some (.int (vWould A (nI k) 1)), some (.int (vWould A (nI k) 0)), some (.int (vWhy A (nI k))), some (.int (nI (pn (a_s A) k))), some (.int cl), some (.int (nI y))]) rfl ?_
          refine m_drop 6 (lo' := [some (.ref 0), some (.int (nI n)), some (.int (sls (a_s A) k + (a_s A (45 + 2 * k) + 1))), some (.int 0), some (.int (nI (k + 1))), none, none, some (.int (vWould A (nI k) 0)), some (.int (vWhy A (nI k))), some (.int (nI (pn (a_s A) k))), some (.int cl), some (.int (nI y))]) rfl ?_
          refine m_drop 7 (lo' := [some (.ref 0), some (.int (nI n)), some (.int (sls (a_s A) k + (a_s A (45 + 2 * k) + 1))), some (.int 0), some (.int (nI (k + 1))), none, none, none, some (.int (vWhy A (nI k))), some (.int (nI (pn (a_s A) k))), some (.int cl), some (.int (nI y))]) rfl ?_
          refine m_drop 8 (lo' := [some (.ref 0), some (.int (nI n)), some (.int (sls (a_s A) k + (a_s A (45 + 2 * k) + 1))), some (.int 0), some (.int (nI (k + 1))), none, none, none, none, some (.int (nI (pn (a_s A) k))), some (.int cl), some (.int (nI y))]) rfl ?_
          refine m_drop 9 (lo' := [some (.ref 0), some (.int (nI n)), some (.int (sls (a_s A) k + (a_s A (45 + 2 * k) + 1))), some (.int 0), some (.int (nI (k + 1))), none, none, none, none, none, some (.int cl), some (.int (nI y))]) rfl ?_
          refine m_drop 10 (lo' := [some (.ref 0), some (.int (nI n)), some (.int (sls (a_s A) k + (a_s A (45 + 2 * k) + 1))), some (.int 0), some (.int (nI (k + 1))), none, none, none, none, none, none, some (.int (nI y))]) rfl ?_
          refine m_drop 11 (lo' := [some (.ref 0), some (.int (nI n)), some (.int (sls (a_s A) k + (a_s A (45 + 2 * k) + 1))), some (.int 0), some (.int (nI (k + 1))), none, none, none, none, none, none, none]) rfl ?_
          exact ih (k + 1) _ (by omega) ce2
        · skip
          refine m_iload (pc' := 228) dL_isRight_226 rfl rfl ?_
          refine m_if_ne (tgt := 248) (pc' := 231) dL_isRight_228 (by decide) rfl (fun h228 => absurd h228 (fun z => z (hcl h223))) (fun h228 => ?_)
          refine m_iload (pc' := 233) dL_isRight_231 rfl rfl ?_
          refine m_if_lt (tgt := 248) (pc' := 236) dL_isRight_233 (by decide) rfl (fun h233 => absurd h233 (nI_pos (by omega))) (fun h233 => ?_)
          refine m_iload (pc' := 238) dL_isRight_236 rfl rfl ?_
          refine m_aload_n (pc' := 239) dL_isRight_238 rfl rfl ?_
          refine m_iload (pc' := 241) dL_isRight_239 rfl rfl ?_
          refine m_iconst (pc' := 242) (v := 1) dL_isRight_241 (by decide) rfl ?_
          refine m_callV (pc' := 245) (A := [.int (nI k), .int 1]) (rest := [.int (nI y)]) (b := 0) cl_L_isRight_22 dL_isRight_242 rfl rfl (Nat.le_of_ble_eq_true rfl) ⟨by decide, by decide⟩ (by decide) rfl rfl rfl rfl ?_
          refine k_entry ce1 hO (fun e3 fe3 ce3 => ?_)
          show mM G mL_isRight 245 [some (.ref 0), some (.int (nI n)), some (.int (sls (a_s A) k + (a_s A (45 + 2 * k) + 1))), some (.int 0), some (.int (nI k)), some (.int (vWould A (nI k) 2)), some (.int (vWould A (nI k) 1)), some (.int (vWould A (nI k) 0)), some (.int (vWhy A (nI k))), some (.int (nI (pn (a_s A) k))), some (.int cl), some (.int (nI y))] [.int (vEntry A (nI k) 1), .int (nI y)] S1 e3 (0, 0) Q
          rw [show (vEntry A (nI k) 1) = (nI (qn (a_s A) k)) from tp_e1q hO hkA]
          refine m_icmp_le (tgt := 250) (pc' := 248) dL_isRight_245 (by decide) rfl (fun h245 => ?_) (fun h245 => (h245 (nI_le y1 (by omega))).elim)
          refine m_iinc (pc' := 253) dL_isRight_250 rfl (by decide) (v := nI (k + 1)) (nI_1 k) rfl rfl ?_
          refine m_goto (tgt := 13) dL_isRight_253 (by decide) ?_
          refine m_drop 5 (lo' := [some (.ref 0), some (.int (nI n)), some (.int (sls (a_s A) k + (a_s A (45 + 2 * k) + 1))), some (.int 0), some (.int (nI (k + 1))), none, some (.int (vWould A (nI k) 1)), some (.int (vWould A (nI k) 0)), some (.int (vWhy A (nI k))), some (.int (nI (pn (a_s A) k))), some (.int cl), some (.int (nI y))]) rfl ?_
          refine m_drop 6 (lo' := [some (.ref 0), some (.int (nI n)), some (.int (sls (a_s A) k + (a_s A (45 + 2 * k) + 1))), some (.int 0), some (.int (nI (k + 1))), none, none, some (.int (vWould A (nI k) 0)), some (.int (vWhy A (nI k))), some (.int (nI (pn (a_s A) k))), some (.int cl), some (.int (nI y))]) rfl ?_
          refine m_drop 7 (lo' := [some (.ref 0), some (.int (nI n)), some (.int (sls (a_s A) k + (a_s A (45 + 2 * k) + 1))), some (.int 0), some (.int (nI (k + 1))), none, none, none, some (.int (vWhy A (nI k))), some (.int (nI (pn (a_s A) k))), some (.int cl), some (.int (nI y))]) rfl ?_
          refine m_drop 8 (lo' := [some (.ref 0), some (.int (nI n)), some (.int (sls (a_s A) k + (a_s A (45 + 2 * k) + 1))), some (.int 0), some (.int (nI (k + 1))), none, none, none, none, some (.int (nI (pn (a_s A) k))), some (.int cl), some (.int (nI y))]) rfl ?_
          refine m_drop 9 (lo' := [some (.ref 0), some (.int (nI n)), some (.int (sls (a_s A) k + (a_s A (45 + 2 * k) + 1))), some (.int 0), some (.int (nI (k + 1))), none, none, none, none, none, some (.int cl), some (.int (nI y))]) rfl ?_
          refine m_drop 10 (lo' := [some (.ref 0), some (.int (nI n)), some (.int (sls (a_s A) k + (a_s A (45 + 2 * k) + 1))), some (.int 0), some (.int (nI (k + 1))), none, none, none, none, none, none, some (.int (nI y))]) rfl ?_
          refine m_drop 11 (lo' := [some (.ref 0), some (.int (nI n)), some (.int (sls (a_s A) k + (a_s A (45 + 2 * k) + 1))), some (.int 0), some (.int (nI (k + 1))), none, none, none, none, none, none, none]) rfl ?_
          exact ih (k + 1) _ (by omega) ce3
      have K137 : ∀ (d1 : Dt) (hC1 : CR d1 A), mM G mL_isRight 137 [some (.ref 0), some (.int (nI n)), some (.int (sls (a_s A) k + (a_s A (45 + 2 * k) + 1))), some (.int 0), some (.int (nI k)), some (.int (vWould A (nI k) 2)), some (.int (vWould A (nI k) 1)), some (.int (vWould A (nI k) 0)), some (.int (vWhy A (nI k))), none, none, none] [] S1 d1 (0, 0) Q := by
        intro d1 hC1
        refine m_aload_n (pc' := 138) dL_isRight_137 rfl rfl ?_
        refine m_iload (pc' := 140) dL_isRight_138 rfl rfl ?_
        refine m_iconst (pc' := 141) (v := 0) dL_isRight_140 (by decide) rfl ?_
        refine m_callV (pc' := 144) (A := [.int (nI k), .int 0]) (rest := []) (b := 0) cl_L_isRight_22 dL_isRight_141 rfl rfl (Nat.le_of_ble_eq_true rfl) ⟨by decide, by decide⟩ (by decide) rfl rfl rfl rfl ?_
        refine k_entry hC1 hO (fun e1 fe1 ce1 => ?_)
        show mM G mL_isRight 144 [some (.ref 0), some (.int (nI n)), some (.int (sls (a_s A) k + (a_s A (45 + 2 * k) + 1))), some (.int 0), some (.int (nI k)), some (.int (vWould A (nI k) 2)), some (.int (vWould A (nI k) 1)), some (.int (vWould A (nI k) 0)), some (.int (vWhy A (nI k))), none, none, none] [.int (vEntry A (nI k) 0)] S1 e1 (0, 0) Q
        rw [show (vEntry A (nI k) 0) = (nI (pn (a_s A) k)) from tp_e0 hO hkA]
        refine m_istore (pc' := 146) dL_isRight_144 (by decide) rfl rfl ?_
        refine m_iload (pc' := 148) dL_isRight_146 rfl rfl ?_
        refine m_bipush (pc' := 150) (v := 7) dL_isRight_148 (by decide) rfl ?_
        refine m_icmp_gt (tgt := 172) (pc' := 153) dL_isRight_150 (by decide) rfl (fun h150 => ?_) (fun h150 => ?_)
        · skip
          refine m_iconst (pc' := 173) (v := 1) dL_isRight_172 (by decide) rfl ?_
          refine m_goto (tgt := 177) dL_isRight_173 (by decide) ?_
          refine m_istore (pc' := 179) dL_isRight_177 (by decide) rfl rfl ?_
          refine m_iload (pc' := 181) dL_isRight_179 rfl rfl ?_
          refine m_if_ne (tgt := 201) (pc' := 184) dL_isRight_181 (by decide) rfl (fun h181 => ?_) (fun h181 => absurd h181 (by decide))
          refine m_iconst (pc' := 202) (v := 1) dL_isRight_201 (by decide) rfl ?_
          refine m_goto (tgt := 206) dL_isRight_202 (by decide) ?_
          refine m_istore (pc' := 208) dL_isRight_206 (by decide) rfl rfl ?_
          exact K208 _ 1 ce1 (fun _ => tp_clean hO hkA (by unfold rsl; rw [if_neg (fun z => nI_nlt (a := 7) (by omega) (by decide) h150)]))
        · skip
          refine m_iload (pc' := 155) dL_isRight_153 rfl rfl ?_
          refine m_if_le (tgt := 176) (pc' := 158) dL_isRight_155 (by decide) rfl (fun h155 => ?_) (fun h155 => ?_)
          · skip
            refine m_iconst (pc' := 177) (v := 0) dL_isRight_176 (by decide) rfl ?_
            refine m_istore (pc' := 179) dL_isRight_177 (by decide) rfl rfl ?_
            refine m_iload (pc' := 181) dL_isRight_179 rfl rfl ?_
            refine m_if_ne (tgt := 201) (pc' := 184) dL_isRight_181 (by decide) rfl (fun h181 => absurd h181 (by decide)) (fun h181 => ?_)
            refine m_iload (pc' := 186) dL_isRight_184 rfl rfl ?_
            refine m_bipush (pc' := 188) (v := 8) dL_isRight_186 (by decide) rfl ?_
            refine m_icmp_ge (tgt := 205) (pc' := 191) dL_isRight_188 (by decide) rfl (fun h188 => ?_) (fun h188 => ?_)
            · skip
              refine m_iconst (pc' := 206) (v := 0) dL_isRight_205 (by decide) rfl ?_
              refine m_istore (pc' := 208) dL_isRight_206 (by decide) rfl rfl ?_
              exact K208 _ 0 ce1 (fun z => absurd rfl z)
            · skip
              refine m_aload_n (pc' := 192) dL_isRight_191 rfl rfl ?_
              refine m_iload (pc' := 194) dL_isRight_192 rfl rfl ?_
              refine m_iconst (pc' := 195) (v := 4) dL_isRight_194 (by decide) rfl ?_
              refine m_callV (pc' := 198) (A := [.int (nI (pn (a_s A) k)), .int 4]) (rest := []) (b := 0) cl_L_isRight_18 dL_isRight_195 rfl rfl (Nat.le_of_ble_eq_true rfl) ⟨by decide, by decide⟩ (by decide) rfl rfl rfl rfl ?_
              refine k_channel ce1 hO (fun e2 fe2 ce2 => ?_)
              show mM G mL_isRight 198 [some (.ref 0), some (.int (nI n)), some (.int (sls (a_s A) k + (a_s A (45 + 2 * k) + 1))), some (.int 0), some (.int (nI k)), some (.int (vWould A (nI k) 2)), some (.int (vWould A (nI k) 1)), some (.int (vWould A (nI k) 0)), some (.int (vWhy A (nI k))), some (.int (nI (pn (a_s A) k))), some (.int 0), none] [.int (vChannel A (nI (pn (a_s A) k)) 4)] S1 e2 (0, 0) Q
              refine m_if_ne (tgt := 205) (pc' := 201) dL_isRight_198 (by decide) rfl (fun h198 => ?_) (fun h198 => ?_)
              · skip
                refine m_iconst (pc' := 206) (v := 0) dL_isRight_205 (by decide) rfl ?_
                refine m_istore (pc' := 208) dL_isRight_206 (by decide) rfl rfl ?_
                exact K208 _ 0 ce2 (fun z => absurd rfl z)
              · skip
                refine m_iconst (pc' := 202) (v := 1) dL_isRight_201 (by decide) rfl ?_
                refine m_goto (tgt := 206) dL_isRight_202 (by decide) ?_
                refine m_istore (pc' := 208) dL_isRight_206 (by decide) rfl rfl ?_
                exact K208 _ 1 ce2 (fun _ => tp_clean hO hkA ((tp_c4 (Nat.not_le.mp (fun z => h188 (nI_le (a := 8) z (by omega))))).symm.trans h198))
          · skip
            refine m_aload_n (pc' := 159) dL_isRight_158 rfl rfl ?_
            refine m_iload (pc' := 161) dL_isRight_159 rfl rfl ?_
            refine m_iconst (pc' := 162) (v := 1) dL_isRight_161 (by decide) rfl ?_
            refine m_isub (pc' := 163) dL_isRight_162 rfl ?_
            rw [show ((nI k) - 1) = (nI (k - 1)) from pk_sub (b := 1) (nI_ps (by omega) h155)]
            refine m_iconst (pc' := 164) (v := 0) dL_isRight_163 (by decide) rfl ?_
            refine m_callV (pc' := 167) (A := [.int (nI (k - 1)), .int 0]) (rest := []) (b := 0) cl_L_isRight_22 dL_isRight_164 rfl rfl (Nat.le_of_ble_eq_true rfl) ⟨by decide, by decide⟩ (by decide) rfl rfl rfl rfl ?_
            refine k_entry ce1 hO (fun e3 fe3 ce3 => ?_)
            show mM G mL_isRight 167 [some (.ref 0), some (.int (nI n)), some (.int (sls (a_s A) k + (a_s A (45 + 2 * k) + 1))), some (.int 0), some (.int (nI k)), some (.int (vWould A (nI k) 2)), some (.int (vWould A (nI k) 1)), some (.int (vWould A (nI k) 0)), some (.int (vWhy A (nI k))), some (.int (nI (pn (a_s A) k))), none, none] [.int (vEntry A (nI (k - 1)) 0)] S1 e3 (0, 0) Q
            rw [show (vEntry A (nI (k - 1)) 0) = (nI (pn (a_s A) (k - 1))) from tp_e0 hO (by have := nI_ps (p := k) (by omega) h155; omega)]
            refine m_bipush (pc' := 169) (v := 8) dL_isRight_167 (by decide) rfl ?_
            refine m_icmp_ne (tgt := 176) (pc' := 172) dL_isRight_169 (by decide) rfl (fun h169 => ?_) (fun h169 => ?_)
            · skip
              refine m_iconst (pc' := 177) (v := 0) dL_isRight_176 (by decide) rfl ?_
              refine m_istore (pc' := 179) dL_isRight_177 (by decide) rfl rfl ?_
              refine m_iload (pc' := 181) dL_isRight_179 rfl rfl ?_
              refine m_if_ne (tgt := 201) (pc' := 184) dL_isRight_181 (by decide) rfl (fun h181 => absurd h181 (by decide)) (fun h181 => ?_)
              refine m_iload (pc' := 186) dL_isRight_184 rfl rfl ?_
              refine m_bipush (pc' := 188) (v := 8) dL_isRight_186 (by decide) rfl ?_
              refine m_icmp_ge (tgt := 205) (pc' := 191) dL_isRight_188 (by decide) rfl (fun h188 => ?_) (fun h188 => ?_)
              · skip
                refine m_iconst (pc' := 206) (v := 0) dL_isRight_205 (by decide) rfl ?_
                refine m_istore (pc' := 208) dL_isRight_206 (by decide) rfl rfl ?_
                exact K208 _ 0 ce3 (fun z => absurd rfl z)
              · skip
                refine m_aload_n (pc' := 192) dL_isRight_191 rfl rfl ?_
                refine m_iload (pc' := 194) dL_isRight_192 rfl rfl ?_
                refine m_iconst (pc' := 195) (v := 4) dL_isRight_194 (by decide) rfl ?_
                refine m_callV (pc' := 198) (A := [.int (nI (pn (a_s A) k)), .int 4]) (rest := []) (b := 0) cl_L_isRight_18 dL_isRight_195 rfl rfl (Nat.le_of_ble_eq_true rfl) ⟨by decide, by decide⟩ (by decide) rfl rfl rfl rfl ?_
                refine k_channel ce3 hO (fun e4 fe4 ce4 => ?_)
                show mM G mL_isRight 198 [some (.ref 0), some (.int (nI n)), some (.int (sls (a_s A) k + (a_s A (45 + 2 * k) + 1))), some (.int 0), some (.int (nI k)), some (.int (vWould A (nI k) 2)), some (.int (vWould A (nI k) 1)), some (.int (vWould A (nI k) 0)), some (.int (vWhy A (nI k))), some (.int (nI (pn (a_s A) k))), some (.int 0), none] [.int (vChannel A (nI (pn (a_s A) k)) 4)] S1 e4 (0, 0) Q
                refine m_if_ne (tgt := 205) (pc' := 201) dL_isRight_198 (by decide) rfl (fun h198 => ?_) (fun h198 => ?_)
                · skip
                  refine m_iconst (pc' := 206) (v := 0) dL_isRight_205 (by decide) rfl ?_
                  refine m_istore (pc' := 208) dL_isRight_206 (by decide) rfl rfl ?_
                  exact K208 _ 0 ce4 (fun z => absurd rfl z)
                · skip
                  refine m_iconst (pc' := 202) (v := 1) dL_isRight_201 (by decide) rfl ?_
                  refine m_goto (tgt := 206) dL_isRight_202 (by decide) ?_
                  refine m_istore (pc' := 208) dL_isRight_206 (by decide) rfl rfl ?_
                  exact K208 _ 1 ce4 (fun _ => tp_clean hO hkA ((tp_c4 (Nat.not_le.mp (fun z => h188 (nI_le (a := 8) z (by omega))))).symm.trans h198))
            · skip
              refine m_iconst (pc' := 173) (v := 1) dL_isRight_172 (by decide) rfl ?_
              refine m_goto (tgt := 177) dL_isRight_173 (by decide) ?_
              refine m_istore (pc' := 179) dL_isRight_177 (by decide) rfl rfl ?_
              refine m_iload (pc' := 181) dL_isRight_179 rfl rfl ?_
              refine m_if_ne (tgt := 201) (pc' := 184) dL_isRight_181 (by decide) rfl (fun h181 => ?_) (fun h181 => absurd h181 (by decide))
              refine m_iconst (pc' := 202) (v := 1) dL_isRight_201 (by decide) rfl ?_
              refine m_goto (tgt := 206) dL_isRight_202 (by decide) ?_
              refine m_istore (pc' := 208) dL_isRight_206 (by decide) rfl rfl ?_
              exact K208 _ 1 ce3 (fun _ => tp_behind hO hkA (nI_ps (by omega) h155) ((nI_eq (b := 8) (by have := (okL_p (okL_n hO.1.1) (show k - 1 < nn (a_s A 43) by omega)).2; omega) (by decide)).mp h169))
      refine m_iload (pc' := 15) dL_isRight_13 rfl rfl ?_
      refine m_iload_n (pc' := 16) dL_isRight_15 rfl rfl ?_
      refine m_icmp_ge (tgt := 256) (pc' := 19) dL_isRight_16 (by decide) rfl (fun h16 => absurd h16 (nI_ge (b := n) (by omega) (by omega))) (fun h16 => ?_)
      refine m_iload_n (pc' := 20) dL_isRight_19 rfl rfl ?_
      refine m_aload_n (pc' := 21) dL_isRight_20 rfl rfl ?_
      refine m_iload (pc' := 23) dL_isRight_21 rfl rfl ?_
      refine m_iconst (pc' := 24) (v := 1) dL_isRight_23 (by decide) rfl ?_
      refine m_callV (pc' := 27) (A := [.int (nI k), .int 1]) (rest := [.int (sls (a_s A) k)]) (b := 0) cl_L_isRight_22 dL_isRight_24 rfl rfl (Nat.le_of_ble_eq_true rfl) ⟨by decide, by decide⟩ (by decide) rfl rfl rfl rfl ?_
      refine k_entry hC1 hO (fun e1 fe1 ce1 => ?_)
      show mM G mL_isRight 27 [some (.ref 0), some (.int (nI n)), some (.int (sls (a_s A) k)), some (.int 0), some (.int (nI k)), none, none, none, none, none, none, none] [.int (vEntry A (nI k) 1), .int (sls (a_s A) k)] S1 e1 (0, 0) Q
      rw [show (vEntry A (nI k) 1) = (a_s A (45 + 2 * k)) from tp_e1 hO hkA]
      refine m_iconst (pc' := 28) (v := 1) dL_isRight_27 (by decide) rfl ?_
      refine m_iadd (pc' := 29) dL_isRight_28 rfl ?_
      refine m_iadd (pc' := 30) dL_isRight_29 rfl ?_
      refine m_istore_n (pc' := 31) dL_isRight_30 (by decide) rfl rfl ?_
      refine m_aload_n (pc' := 32) dL_isRight_31 rfl rfl ?_
      refine m_iload (pc' := 34) dL_isRight_32 rfl rfl ?_
      refine m_iconst (pc' := 35) (v := 2) dL_isRight_34 (by decide) rfl ?_
      refine m_callV (pc' := 38) (A := [.int (nI k), .int 2]) (rest := []) (b := 0) cl_L_isRight_74 dL_isRight_35 rfl rfl (Nat.le_of_ble_eq_true rfl) ⟨by decide, by decide⟩ (by decide) rfl rfl rfl rfl ?_
      refine k_would ce1 hO (fun e2 fe2 ce2 => ?_)
      show mM G mL_isRight 38 [some (.ref 0), some (.int (nI n)), some (.int ((sls (a_s A) k) + ((a_s A (45 + 2 * k)) + 1))), some (.int 0), some (.int (nI k)), none, none, none, none, none, none, none] [.int (vWould A (nI k) 2)] S1 e2 (0, 0) Q
      refine m_istore (pc' := 40) dL_isRight_38 (by decide) rfl rfl ?_
      refine m_aload_n (pc' := 41) dL_isRight_40 rfl rfl ?_
      refine m_iload (pc' := 43) dL_isRight_41 rfl rfl ?_
      refine m_iconst (pc' := 44) (v := 1) dL_isRight_43 (by decide) rfl ?_
      refine m_callV (pc' := 47) (A := [.int (nI k), .int 1]) (rest := []) (b := 0) cl_L_isRight_74 dL_isRight_44 rfl rfl (Nat.le_of_ble_eq_true rfl) ⟨by decide, by decide⟩ (by decide) rfl rfl rfl rfl ?_
      refine k_would ce2 hO (fun e3 fe3 ce3 => ?_)
      show mM G mL_isRight 47 [some (.ref 0), some (.int (nI n)), some (.int ((sls (a_s A) k) + ((a_s A (45 + 2 * k)) + 1))), some (.int 0), some (.int (nI k)), some (.int (vWould A (nI k) 2)), none, none, none, none, none, none] [.int (vWould A (nI k) 1)] S1 e3 (0, 0) Q
      refine m_istore (pc' := 49) dL_isRight_47 (by decide) rfl rfl ?_
      refine m_aload_n (pc' := 50) dL_isRight_49 rfl rfl ?_
      refine m_iload (pc' := 52) dL_isRight_50 rfl rfl ?_
      refine m_iconst (pc' := 53) (v := 0) dL_isRight_52 (by decide) rfl ?_
      refine m_callV (pc' := 56) (A := [.int (nI k), .int 0]) (rest := []) (b := 0) cl_L_isRight_74 dL_isRight_53 rfl rfl (Nat.le_of_ble_eq_true rfl) ⟨by decide, by decide⟩ (by decide) rfl rfl rfl rfl ?_
      refine k_would ce3 hO (fun e4 fe4 ce4 => ?_)
      show mM G mL_isRight 56 [some (.ref 0), some (.int (nI n)), some (.int ((sls (a_s A) k) + ((a_s A (45 + 2 * k)) + 1))), some (.int 0), some (.int (nI k)), some (.int (vWould A (nI k) 2)), some (.int (vWould A (nI k) 1)), none, none, none, none, none] [.int (vWould A (nI k) 0)] S1 e4 (0, 0) Q
      refine m_istore (pc' := 58) dL_isRight_56 (by decide) rfl rfl ?_
      refine m_aload_n (pc' := 59) dL_isRight_58 rfl rfl ?_
      refine m_iload (pc' := 61) dL_isRight_59 rfl rfl ?_
      refine m_callV (pc' := 64) (A := [.int (nI k)]) (rest := []) (b := 0) cl_L_isRight_77 dL_isRight_61 rfl rfl (Nat.le_of_ble_eq_true rfl) ⟨by decide, by decide⟩ (by decide) rfl rfl rfl rfl ?_
      refine k_why ce4 hO (fun e5 fe5 ce5 => ?_)
      show mM G mL_isRight 64 [some (.ref 0), some (.int (nI n)), some (.int ((sls (a_s A) k) + ((a_s A (45 + 2 * k)) + 1))), some (.int 0), some (.int (nI k)), some (.int (vWould A (nI k) 2)), some (.int (vWould A (nI k) 1)), some (.int (vWould A (nI k) 0)), none, none, none, none] [.int (vWhy A (nI k))] S1 e5 (0, 0) Q
      refine m_istore (pc' := 66) dL_isRight_64 (by decide) rfl rfl ?_
      refine m_iload (pc' := 68) dL_isRight_66 rfl rfl ?_
      refine m_if_lt (tgt := 135) (pc' := 71) dL_isRight_68 (by decide) rfl (fun h68 => absurd h68 (hr0)) (fun h68 => ?_)
      refine m_iload (pc' := 73) dL_isRight_71 rfl rfl ?_
      refine m_sipush (pc' := 76) (v := 4095) dL_isRight_73 (by decide) rfl ?_
      refine m_icmp_gt (tgt := 135) (pc' := 79) dL_isRight_76 (by decide) rfl (fun h76 => absurd h76 (hr1)) (fun h76 => ?_)
      refine m_iload (pc' := 81) dL_isRight_79 rfl rfl ?_
      refine m_if_ne (tgt := 88) (pc' := 84) dL_isRight_81 (by decide) rfl (fun h81 => ?_) (fun h81 => ?_)
      · skip
        refine m_iconst (pc' := 89) (v := 0) dL_isRight_88 (by decide) rfl ?_
        refine m_iload (pc' := 91) dL_isRight_89 rfl rfl ?_
        refine m_if_ne (tgt := 98) (pc' := 94) dL_isRight_91 (by decide) rfl (fun h91 => ?_) (fun h91 => ?_)
        · skip
          refine m_iconst (pc' := 99) (v := 0) dL_isRight_98 (by decide) rfl ?_
          refine m_icmp_ne (tgt := 135) (pc' := 102) dL_isRight_99 (by decide) rfl (fun h99 => absurd h99 (by decide)) (fun h99 => ?_)
          refine m_iload (pc' := 104) dL_isRight_102 rfl rfl ?_
          refine m_iconst (pc' := 105) (v := 1) dL_isRight_104 (by decide) rfl ?_
          refine m_icmp_ne (tgt := 113) (pc' := 108) dL_isRight_105 (by decide) rfl (fun h105 => ?_) (fun h105 => ?_)
          · skip
            refine m_iload (pc' := 115) dL_isRight_113 rfl rfl ?_
            refine m_iconst (pc' := 116) (v := 2) dL_isRight_115 (by decide) rfl ?_
            refine m_icmp_ne (tgt := 124) (pc' := 119) dL_isRight_116 (by decide) rfl (fun h116 => ?_) (fun h116 => ?_)
            · skip
              refine m_iload (pc' := 126) dL_isRight_124 rfl rfl ?_
              refine m_iconst (pc' := 127) (v := 2) dL_isRight_126 (by decide) rfl ?_
              refine m_icmp_le (tgt := 137) (pc' := 130) dL_isRight_127 (by decide) rfl (fun h127 => ?_) (fun h127 => ?_)
              · skip
                exact K137 _ ce5
              · skip
                refine m_iload (pc' := 132) dL_isRight_130 rfl rfl ?_
                refine m_if_eq (tgt := 137) (pc' := 135) dL_isRight_132 (by decide) rfl (fun h132 => ?_) (fun h132 => (h132 (hw.2.2.2 (Int32.not_le.mp h127))).elim)
                exact K137 _ ce5
            · skip
              refine m_iload (pc' := 121) dL_isRight_119 rfl rfl ?_
              refine m_if_ge (tgt := 135) (pc' := 124) dL_isRight_121 (by decide) rfl (fun h121 => absurd h121 (fun z => Int32.not_lt.mpr z (hw.2.2.1 h116))) (fun h121 => ?_)
              refine m_iload (pc' := 126) dL_isRight_124 rfl rfl ?_
              refine m_iconst (pc' := 127) (v := 2) dL_isRight_126 (by decide) rfl ?_
              refine m_icmp_le (tgt := 137) (pc' := 130) dL_isRight_127 (by decide) rfl (fun h127 => ?_) (fun h127 => ?_)
              · skip
                exact K137 _ ce5
              · skip
                refine m_iload (pc' := 132) dL_isRight_130 rfl rfl ?_
                refine m_if_eq (tgt := 137) (pc' := 135) dL_isRight_132 (by decide) rfl (fun h132 => ?_) (fun h132 => (h132 (hw.2.2.2 (Int32.not_le.mp h127))).elim)
                exact K137 _ ce5
          · skip
            refine m_iload (pc' := 110) dL_isRight_108 rfl rfl ?_
            refine m_if_le (tgt := 135) (pc' := 113) dL_isRight_110 (by decide) rfl (fun h110 => absurd h110 (Int32.not_le.mpr (hw.2.1 h105))) (fun h110 => ?_)
            refine m_iload (pc' := 115) dL_isRight_113 rfl rfl ?_
            refine m_iconst (pc' := 116) (v := 2) dL_isRight_115 (by decide) rfl ?_
            refine m_icmp_ne (tgt := 124) (pc' := 119) dL_isRight_116 (by decide) rfl (fun h116 => ?_) (fun h116 => ?_)
            · skip
              refine m_iload (pc' := 126) dL_isRight_124 rfl rfl ?_
              refine m_iconst (pc' := 127) (v := 2) dL_isRight_126 (by decide) rfl ?_
              refine m_icmp_le (tgt := 137) (pc' := 130) dL_isRight_127 (by decide) rfl (fun h127 => ?_) (fun h127 => ?_)
              · skip
                exact K137 _ ce5
              · skip
                refine m_iload (pc' := 132) dL_isRight_130 rfl rfl ?_
                refine m_if_eq (tgt := 137) (pc' := 135) dL_isRight_132 (by decide) rfl (fun h132 => ?_) (fun h132 => (h132 (hw.2.2.2 (Int32.not_le.mp h127))).elim)
                exact K137 _ ce5
            · skip
              refine m_iload (pc' := 121) dL_isRight_119 rfl rfl ?_
              refine m_if_ge (tgt := 135) (pc' := 124) dL_isRight_121 (by decide) rfl (fun h121 => absurd h121 (fun z => Int32.not_lt.mpr z (hw.2.2.1 h116))) (fun h121 => ?_)
              refine m_iload (pc' := 126) dL_isRight_124 rfl rfl ?_
              refine m_iconst (pc' := 127) (v := 2) dL_isRight_126 (by decide) rfl ?_
              refine m_icmp_le (tgt := 137) (pc' := 130) dL_isRight_127 (by decide) rfl (fun h127 => ?_) (fun h127 => ?_)
              · skip
                exact K137 _ ce5
              · skip
                refine m_iload (pc' := 132) dL_isRight_130 rfl rfl ?_
                refine m_if_eq (tgt := 137) (pc' := 135) dL_isRight_132 (by decide) rfl (fun h132 => ?_) (fun h132 => (h132 (hw.2.2.2 (Int32.not_le.mp h127))).elim)
                exact K137 _ ce5
        · skip
          refine m_iconst (pc' := 95) (v := 1) dL_isRight_94 (by decide) rfl ?_
          refine m_goto (tgt := 99) dL_isRight_95 (by decide) ?_
          refine m_icmp_ne (tgt := 135) (pc' := 102) dL_isRight_99 (by decide) rfl (fun h99 => ?_) (fun h99 => absurd h99 (by decide))
          refine m_iconst (pc' := 136) (v := 0) dL_isRight_135 (by decide) rfl ?_
          refine m_iret dL_isRight_136 rfl (by decide) ⟨by decide, by decide⟩ ?_
          exact absurd (hw.1.mpr h91) h81
      · skip
        refine m_iconst (pc' := 85) (v := 1) dL_isRight_84 (by decide) rfl ?_
        refine m_goto (tgt := 89) dL_isRight_85 (by decide) ?_
        refine m_iload (pc' := 91) dL_isRight_89 rfl rfl ?_
        refine m_if_ne (tgt := 98) (pc' := 94) dL_isRight_91 (by decide) rfl (fun h91 => ?_) (fun h91 => ?_)
        · skip
          refine m_iconst (pc' := 99) (v := 0) dL_isRight_98 (by decide) rfl ?_
          refine m_icmp_ne (tgt := 135) (pc' := 102) dL_isRight_99 (by decide) rfl (fun h99 => ?_) (fun h99 => absurd h99 (by decide))
          refine m_iconst (pc' := 136) (v := 0) dL_isRight_135 (by decide) rfl ?_
          refine m_iret dL_isRight_136 rfl (by decide) ⟨by decide, by decide⟩ ?_
          exact absurd (hw.1.mp h81) h91
        · skip
          refine m_iconst (pc' := 95) (v := 1) dL_isRight_94 (by decide) rfl ?_
          refine m_goto (tgt := 99) dL_isRight_95 (by decide) ?_
          refine m_icmp_ne (tgt := 135) (pc' := 102) dL_isRight_99 (by decide) rfl (fun h99 => absurd h99 (by decide)) (fun h99 => ?_)
          refine m_iload (pc' := 104) dL_isRight_102 rfl rfl ?_
          refine m_iconst (pc' := 105) (v := 1) dL_isRight_104 (by decide) rfl ?_
          refine m_icmp_ne (tgt := 113) (pc' := 108) dL_isRight_105 (by decide) rfl (fun h105 => ?_) (fun h105 => ?_)
          · skip
            refine m_iload (pc' := 115) dL_isRight_113 rfl rfl ?_
            refine m_iconst (pc' := 116) (v := 2) dL_isRight_115 (by decide) rfl ?_
            refine m_icmp_ne (tgt := 124) (pc' := 119) dL_isRight_116 (by decide) rfl (fun h116 => ?_) (fun h116 => ?_)
            · skip
              refine m_iload (pc' := 126) dL_isRight_124 rfl rfl ?_
              refine m_iconst (pc' := 127) (v := 2) dL_isRight_126 (by decide) rfl ?_
              refine m_icmp_le (tgt := 137) (pc' := 130) dL_isRight_127 (by decide) rfl (fun h127 => ?_) (fun h127 => ?_)
              · skip
                exact K137 _ ce5
              · skip
                refine m_iload (pc' := 132) dL_isRight_130 rfl rfl ?_
                refine m_if_eq (tgt := 137) (pc' := 135) dL_isRight_132 (by decide) rfl (fun h132 => ?_) (fun h132 => (h132 (hw.2.2.2 (Int32.not_le.mp h127))).elim)
                exact K137 _ ce5
            · skip
              refine m_iload (pc' := 121) dL_isRight_119 rfl rfl ?_
              refine m_if_ge (tgt := 135) (pc' := 124) dL_isRight_121 (by decide) rfl (fun h121 => absurd h121 (fun z => Int32.not_lt.mpr z (hw.2.2.1 h116))) (fun h121 => ?_)
              refine m_iload (pc' := 126) dL_isRight_124 rfl rfl ?_
              refine m_iconst (pc' := 127) (v := 2) dL_isRight_126 (by decide) rfl ?_
              refine m_icmp_le (tgt := 137) (pc' := 130) dL_isRight_127 (by decide) rfl (fun h127 => ?_) (fun h127 => ?_)
              · skip
                exact K137 _ ce5
              · skip
                refine m_iload (pc' := 132) dL_isRight_130 rfl rfl ?_
                refine m_if_eq (tgt := 137) (pc' := 135) dL_isRight_132 (by decide) rfl (fun h132 => ?_) (fun h132 => (h132 (hw.2.2.2 (Int32.not_le.mp h127))).elim)
                exact K137 _ ce5
          · skip
            refine m_iload (pc' := 110) dL_isRight_108 rfl rfl ?_
            refine m_if_le (tgt := 135) (pc' := 113) dL_isRight_110 (by decide) rfl (fun h110 => absurd h110 (Int32.not_le.mpr (hw.2.1 h105))) (fun h110 => ?_)
            refine m_iload (pc' := 115) dL_isRight_113 rfl rfl ?_
            refine m_iconst (pc' := 116) (v := 2) dL_isRight_115 (by decide) rfl ?_
            refine m_icmp_ne (tgt := 124) (pc' := 119) dL_isRight_116 (by decide) rfl (fun h116 => ?_) (fun h116 => ?_)
            · skip
              refine m_iload (pc' := 126) dL_isRight_124 rfl rfl ?_
              refine m_iconst (pc' := 127) (v := 2) dL_isRight_126 (by decide) rfl ?_
              refine m_icmp_le (tgt := 137) (pc' := 130) dL_isRight_127 (by decide) rfl (fun h127 => ?_) (fun h127 => ?_)
              · skip
                exact K137 _ ce5
              · skip
                refine m_iload (pc' := 132) dL_isRight_130 rfl rfl ?_
                refine m_if_eq (tgt := 137) (pc' := 135) dL_isRight_132 (by decide) rfl (fun h132 => ?_) (fun h132 => (h132 (hw.2.2.2 (Int32.not_le.mp h127))).elim)
                exact K137 _ ce5
            · skip
              refine m_iload (pc' := 121) dL_isRight_119 rfl rfl ?_
              refine m_if_ge (tgt := 135) (pc' := 124) dL_isRight_121 (by decide) rfl (fun h121 => absurd h121 (fun z => Int32.not_lt.mpr z (hw.2.2.1 h116))) (fun h121 => ?_)
              refine m_iload (pc' := 126) dL_isRight_124 rfl rfl ?_
              refine m_iconst (pc' := 127) (v := 2) dL_isRight_126 (by decide) rfl ?_
              refine m_icmp_le (tgt := 137) (pc' := 130) dL_isRight_127 (by decide) rfl (fun h127 => ?_) (fun h127 => ?_)
              · skip
                exact K137 _ ce5
              · skip
                refine m_iload (pc' := 132) dL_isRight_130 rfl rfl ?_
                refine m_if_eq (tgt := 137) (pc' := 135) dL_isRight_132 (by decide) rfl (fun h132 => ?_) (fun h132 => (h132 (hw.2.2.2 (Int32.not_le.mp h127))).elim)
                exact K137 _ ce5
  refine mC_of (by decide +kernel) ⟨_, rfl⟩ (Nat.le_of_ble_eq_true rfl) ?_
  show mM G mL_isRight 0 [some (.ref 0), none, none, none, none, none, none, none, none, none, none, none] [] S1 d (0, 0) Q
  refine m_aload_n (pc' := 1) dL_isRight_0 rfl rfl ?_
  refine m_iconst (pc' := 2) (v := 1) dL_isRight_1 (by decide) rfl ?_
  refine m_callV (pc' := 5) (A := [.int 1]) (rest := []) (b := 0) cl_L_isRight_12 dL_isRight_2 rfl rfl (Nat.le_of_ble_eq_true rfl) ⟨by decide, by decide⟩ (by decide) rfl rfl rfl rfl ?_
  refine k_count hC hO (fun e1 fe1 ce1 => ?_)
  show mM G mL_isRight 5 [some (.ref 0), none, none, none, none, none, none, none, none, none, none, none] [.int (vCount A 1)] S1 e1 (0, 0) Q
  rw [show (vCount A 1) = (nI n) from hm]
  refine m_istore_n (pc' := 6) dL_isRight_5 (by decide) rfl rfl ?_
  refine m_iconst (pc' := 7) (v := 0) dL_isRight_6 (by decide) rfl ?_
  refine m_istore_n (pc' := 8) dL_isRight_7 (by decide) rfl rfl ?_
  refine m_iconst (pc' := 9) (v := 0) dL_isRight_8 (by decide) rfl ?_
  refine m_istore_n (pc' := 10) dL_isRight_9 (by decide) rfl rfl ?_
  refine m_iconst (pc' := 11) (v := 0) dL_isRight_10 (by decide) rfl ?_
  refine m_istore (pc' := 13) dL_isRight_11 (by decide) rfl rfl ?_
  exact J1 n 0 _ (by omega) ce1
end LAWB
