/-! aligning: what is to be joined, sweeps, links of both directions -/
section M0B
variable {d n : Nat} {h : Hp} {l0 l1 : Nat} {E J : Nat → Nat}
theorem m0_isToJoin (g : Ah h l0 l1) (hl0 : l0 ≤ 8) (ge : h 20 = aI 8 E) (gj : h 21 = aI 8 J) (hE : ∀ i, E i < 256) (hJ : ∀ i, J i < 256) (hz : ∀ i, l0 ≤ i → J i = 0) {i j : Nat} (hi : i < 8) (hj : j < 8) : Ev (d + 3) MX0_isToJoin 0 (lv_args 0 [.ref 18, .int (nI i), .int (nI j)]) [] n h (.inl (some (.int (nI (bI (toJ E J i j))))), n, h, 0, 0) := by
  have b1 := and_pow_le (E i) j hj
  have b2 := hJ i
  by_cases q1 : E i &&& 2 ^ j = 0
  · rw [bI_f (fun c => c.1 q1)]
    first | refine ev_aload_n dX0_isToJoin_0 rfl ?_ | refine ev_aload_nN dX0_isToJoin_0 rfl ?_
    refine ev_getfield dX0_isToJoin_1 fl_RX0_15 (by repeat (first | assumption | exact up_s | refine (up_n (by omega)).trans ?_)) rfl ?_
    refine ev_iload_n dX0_isToJoin_4 rfl ?_
    refine ev_S2 dX0_isToJoin_5 st_RX0_28 na_X0_bitsAt (Nat.le_of_ble_eq_true rfl) (Nat.le_of_ble_eq_true rfl) (m0_bitsAtN ge hi) ?_
    refine ev_iload_n dX0_isToJoin_8 rfl ?_
    refine ev_S1 dX0_isToJoin_9 st_RX0_41 na_X0_bitOf (Nat.le_of_ble_eq_true rfl) (Nat.le_of_ble_eq_true rfl) (m0_bitOfN hj) ?_
    first | refine ev_iandN dX0_isToJoin_12 ?_ | refine ev_iand dX0_isToJoin_12 ?_
    refine ev_if_eqT (tgt := 20) dX0_isToJoin_13 (by decide) (by first | assumption | exact z_eq (by omega) | decide) ?_
    refine ev_iconst dX0_isToJoin_20 ci0 ?_
    refine ev_istore_n dX0_isToJoin_21 (Nat.le_of_ble_eq_true rfl) ?_
    refine ev_iload_n dX0_isToJoin_22 rfl ?_
    refine ev_if_eqT (tgt := 64) dX0_isToJoin_23 (by decide) (by first | assumption | exact z_eq (by omega) | decide) ?_
    refine ev_iconst dX0_isToJoin_64 ci0 ?_
    exact ev_zreturnE dX0_isToJoin_65 rfl (by first | exact Or.inl rfl | exact Or.inr rfl | assumption | exact z01 (bI_01 _) | exact z01 (by omega)) (by rfl)
  · by_cases q2 : J i &&& 2 ^ j = 0
    · have e2 : bI (J i &&& 2 ^ j ≠ 0) = 0 := bI_f (by omega)
      by_cases q3 : J i = 0
      · by_cases q4 : nrow J i &&& nbit j = 0
        · have e4 : bI (nrow J i &&& nbit j ≠ 0) = 0 := bI_f (by omega)
          rw [bI_f (fun c => c.2.2.2 q4)]
          first | refine ev_aload_n dX0_isToJoin_0 rfl ?_ | refine ev_aload_nN dX0_isToJoin_0 rfl ?_
          refine ev_getfield dX0_isToJoin_1 fl_RX0_15 (by repeat (first | assumption | exact up_s | refine (up_n (by omega)).trans ?_)) rfl ?_
          refine ev_iload_n dX0_isToJoin_4 rfl ?_
          refine ev_S2 dX0_isToJoin_5 st_RX0_28 na_X0_bitsAt (Nat.le_of_ble_eq_true rfl) (Nat.le_of_ble_eq_true rfl) (m0_bitsAtN ge hi) ?_
          refine ev_iload_n dX0_isToJoin_8 rfl ?_
          refine ev_S1 dX0_isToJoin_9 st_RX0_41 na_X0_bitOf (Nat.le_of_ble_eq_true rfl) (Nat.le_of_ble_eq_true rfl) (m0_bitOfN hj) ?_
          first | refine ev_iandN dX0_isToJoin_12 ?_ | refine ev_iand dX0_isToJoin_12 ?_
          refine ev_if_eqF dX0_isToJoin_13 20 (by decide) (by first | assumption | exact nI_ne0 (by omega) (by omega) | decide) ?_
          refine ev_iconst dX0_isToJoin_16 ci1 ?_
          refine ev_goto (tgt := 21) dX0_isToJoin_17 (by decide) ?_
          refine ev_istore_n dX0_isToJoin_21 (Nat.le_of_ble_eq_true rfl) ?_
          refine ev_iload_n dX0_isToJoin_22 rfl ?_
          refine ev_if_eqF dX0_isToJoin_23 64 (by decide) (by first | assumption | exact nI_ne0 (by omega) (by omega) | decide) ?_
          first | refine ev_aload_n dX0_isToJoin_26 rfl ?_ | refine ev_aload_nN dX0_isToJoin_26 rfl ?_
          refine ev_iload_n dX0_isToJoin_27 rfl ?_
          refine ev_iload_n dX0_isToJoin_28 rfl ?_
          refine ev_V2 dX0_isToJoin_29 st_RX0_87 na_X0_hasJoined (Nat.le_of_ble_eq_true rfl) (Nat.le_of_ble_eq_true rfl) (by repeat (first | assumption | exact up_s | refine (up_n (by omega)).trans ?_)) rfl (m0_hasJoined g gj hi hj) ?_
          refine ev_if_neF dX0_isToJoin_32 64 (by decide) (by first | assumption | exact z_eq (by omega) | decide) ?_
          first | refine ev_aload_n dX0_isToJoin_35 rfl ?_ | refine ev_aload_nN dX0_isToJoin_35 rfl ?_
          refine ev_iload_n dX0_isToJoin_36 rfl ?_
          refine ev_V1 dX0_isToJoin_37 st_RX0_32 na_X0_joinedBits (Nat.le_of_ble_eq_true rfl) (Nat.le_of_ble_eq_true rfl) (by repeat (first | assumption | exact up_s | refine (up_n (by omega)).trans ?_)) rfl (m0_joinedBitsN g gj hi) ?_
          refine ev_if_eqT (tgt := 51) dX0_isToJoin_40 (by decide) (by first | assumption | exact z_eq (by omega) | decide) ?_
          first | refine ev_aload_n dX0_isToJoin_51 rfl ?_ | refine ev_aload_nN dX0_isToJoin_51 rfl ?_
          refine ev_iload_n dX0_isToJoin_52 rfl ?_
          refine ev_iload_n dX0_isToJoin_53 rfl ?_
          refine ev_V2 dX0_isToJoin_54 st_RX0_94 na_X0_isBesideJoined (Nat.le_of_ble_eq_true rfl) (Nat.le_of_ble_eq_true rfl) (by repeat (first | assumption | exact up_s | refine (up_n (by omega)).trans ?_)) rfl (m0_beside g gj hJ hi hj) ?_
          refine ev_if_eqT (tgt := 64) dX0_isToJoin_57 (by decide) (by first | assumption | exact z_eq (by omega) | decide) ?_
          refine ev_iconst dX0_isToJoin_64 ci0 ?_
          exact ev_zreturnE dX0_isToJoin_65 rfl (by first | exact Or.inl rfl | exact Or.inr rfl | assumption | exact z01 (bI_01 _) | exact z01 (by omega)) (by rfl)
        · have e4 : bI (nrow J i &&& nbit j ≠ 0) = 1 := bI_t q4
          rw [bI_t ⟨q1, q2, Or.inl q3, q4⟩]
          first | refine ev_aload_n dX0_isToJoin_0 rfl ?_ | refine ev_aload_nN dX0_isToJoin_0 rfl ?_
          refine ev_getfield dX0_isToJoin_1 fl_RX0_15 (by repeat (first | assumption | exact up_s | refine (up_n (by omega)).trans ?_)) rfl ?_
          refine ev_iload_n dX0_isToJoin_4 rfl ?_
          refine ev_S2 dX0_isToJoin_5 st_RX0_28 na_X0_bitsAt (Nat.le_of_ble_eq_true rfl) (Nat.le_of_ble_eq_true rfl) (m0_bitsAtN ge hi) ?_
          refine ev_iload_n dX0_isToJoin_8 rfl ?_
          refine ev_S1 dX0_isToJoin_9 st_RX0_41 na_X0_bitOf (Nat.le_of_ble_eq_true rfl) (Nat.le_of_ble_eq_true rfl) (m0_bitOfN hj) ?_
          first | refine ev_iandN dX0_isToJoin_12 ?_ | refine ev_iand dX0_isToJoin_12 ?_
          refine ev_if_eqF dX0_isToJoin_13 20 (by decide) (by first | assumption | exact nI_ne0 (by omega) (by omega) | decide) ?_
          refine ev_iconst dX0_isToJoin_16 ci1 ?_
          refine ev_goto (tgt := 21) dX0_isToJoin_17 (by decide) ?_
          refine ev_istore_n dX0_isToJoin_21 (Nat.le_of_ble_eq_true rfl) ?_
          refine ev_iload_n dX0_isToJoin_22 rfl ?_
          refine ev_if_eqF dX0_isToJoin_23 64 (by decide) (by first | assumption | exact nI_ne0 (by omega) (by omega) | decide) ?_
          first | refine ev_aload_n dX0_isToJoin_26 rfl ?_ | refine ev_aload_nN dX0_isToJoin_26 rfl ?_
          refine ev_iload_n dX0_isToJoin_27 rfl ?_
          refine ev_iload_n dX0_isToJoin_28 rfl ?_
          refine ev_V2 dX0_isToJoin_29 st_RX0_87 na_X0_hasJoined (Nat.le_of_ble_eq_true rfl) (Nat.le_of_ble_eq_true rfl) (by repeat (first | assumption | exact up_s | refine (up_n (by omega)).trans ?_)) rfl (m0_hasJoined g gj hi hj) ?_
          refine ev_if_neF dX0_isToJoin_32 64 (by decide) (by first | assumption | exact z_eq (by omega) | decide) ?_
          first | refine ev_aload_n dX0_isToJoin_35 rfl ?_ | refine ev_aload_nN dX0_isToJoin_35 rfl ?_
          refine ev_iload_n dX0_isToJoin_36 rfl ?_
          refine ev_V1 dX0_isToJoin_37 st_RX0_32 na_X0_joinedBits (Nat.le_of_ble_eq_true rfl) (Nat.le_of_ble_eq_true rfl) (by repeat (first | assumption | exact up_s | refine (up_n (by omega)).trans ?_)) rfl (m0_joinedBitsN g gj hi) ?_
          refine ev_if_eqT (tgt := 51) dX0_isToJoin_40 (by decide) (by first | assumption | exact z_eq (by omega) | decide) ?_
          first | refine ev_aload_n dX0_isToJoin_51 rfl ?_ | refine ev_aload_nN dX0_isToJoin_51 rfl ?_
          refine ev_iload_n dX0_isToJoin_52 rfl ?_
          refine ev_iload_n dX0_isToJoin_53 rfl ?_
          refine ev_V2 dX0_isToJoin_54 st_RX0_94 na_X0_isBesideJoined (Nat.le_of_ble_eq_true rfl) (Nat.le_of_ble_eq_true rfl) (by repeat (first | assumption | exact up_s | refine (up_n (by omega)).trans ?_)) rfl (m0_beside g gj hJ hi hj) ?_
          refine ev_if_eqF dX0_isToJoin_57 64 (by decide) (by first | assumption | exact nI_ne0 (by omega) (by omega) | decide) ?_
          refine ev_iconst dX0_isToJoin_60 ci1 ?_
          refine ev_goto (tgt := 65) dX0_isToJoin_61 (by decide) ?_
          exact ev_zreturnE dX0_isToJoin_65 rfl (by first | exact Or.inl rfl | exact Or.inr rfl | assumption | exact z01 (bI_01 _) | exact z01 (by omega)) (by rfl)
      · by_cases q5 : orF J 8 &&& 2 ^ j = 0
        · have e5 : bI (orF J 8 &&& 2 ^ j = 0) = 1 := bI_t q5
          by_cases q4 : nrow J i &&& nbit j = 0
          · have e4 : bI (nrow J i &&& nbit j ≠ 0) = 0 := bI_f (by omega)
            rw [bI_f (fun c => c.2.2.2 q4)]
            first | refine ev_aload_n dX0_isToJoin_0 rfl ?_ | refine ev_aload_nN dX0_isToJoin_0 rfl ?_
            refine ev_getfield dX0_isToJoin_1 fl_RX0_15 (by repeat (first | assumption | exact up_s | refine (up_n (by omega)).trans ?_)) rfl ?_
            refine ev_iload_n dX0_isToJoin_4 rfl ?_
            refine ev_S2 dX0_isToJoin_5 st_RX0_28 na_X0_bitsAt (Nat.le_of_ble_eq_true rfl) (Nat.le_of_ble_eq_true rfl) (m0_bitsAtN ge hi) ?_
            refine ev_iload_n dX0_isToJoin_8 rfl ?_
            refine ev_S1 dX0_isToJoin_9 st_RX0_41 na_X0_bitOf (Nat.le_of_ble_eq_true rfl) (Nat.le_of_ble_eq_true rfl) (m0_bitOfN hj) ?_
            first | refine ev_iandN dX0_isToJoin_12 ?_ | refine ev_iand dX0_isToJoin_12 ?_
            refine ev_if_eqF dX0_isToJoin_13 20 (by decide) (by first | assumption | exact nI_ne0 (by omega) (by omega) | decide) ?_
            refine ev_iconst dX0_isToJoin_16 ci1 ?_
            refine ev_goto (tgt := 21) dX0_isToJoin_17 (by decide) ?_
            refine ev_istore_n dX0_isToJoin_21 (Nat.le_of_ble_eq_true rfl) ?_
            refine ev_iload_n dX0_isToJoin_22 rfl ?_
            refine ev_if_eqF dX0_isToJoin_23 64 (by decide) (by first | assumption | exact nI_ne0 (by omega) (by omega) | decide) ?_
            first | refine ev_aload_n dX0_isToJoin_26 rfl ?_ | refine ev_aload_nN dX0_isToJoin_26 rfl ?_
            refine ev_iload_n dX0_isToJoin_27 rfl ?_
            refine ev_iload_n dX0_isToJoin_28 rfl ?_
            refine ev_V2 dX0_isToJoin_29 st_RX0_87 na_X0_hasJoined (Nat.le_of_ble_eq_true rfl) (Nat.le_of_ble_eq_true rfl) (by repeat (first | assumption | exact up_s | refine (up_n (by omega)).trans ?_)) rfl (m0_hasJoined g gj hi hj) ?_
            refine ev_if_neF dX0_isToJoin_32 64 (by decide) (by first | assumption | exact z_eq (by omega) | decide) ?_
            first | refine ev_aload_n dX0_isToJoin_35 rfl ?_ | refine ev_aload_nN dX0_isToJoin_35 rfl ?_
            refine ev_iload_n dX0_isToJoin_36 rfl ?_
            refine ev_V1 dX0_isToJoin_37 st_RX0_32 na_X0_joinedBits (Nat.le_of_ble_eq_true rfl) (Nat.le_of_ble_eq_true rfl) (by repeat (first | assumption | exact up_s | refine (up_n (by omega)).trans ?_)) rfl (m0_joinedBitsN g gj hi) ?_
            refine ev_if_eqF dX0_isToJoin_40 51 (by decide) (by first | assumption | exact nI_ne0 (by omega) (by omega) | decide) ?_
            first | refine ev_aload_n dX0_isToJoin_43 rfl ?_ | refine ev_aload_nN dX0_isToJoin_43 rfl ?_
            refine ev_iload_n dX0_isToJoin_44 rfl ?_
            refine ev_V1 dX0_isToJoin_45 st_RX0_90 na_X0_isFree (Nat.le_of_ble_eq_true rfl) (Nat.le_of_ble_eq_true rfl) (by repeat (first | assumption | exact up_s | refine (up_n (by omega)).trans ?_)) rfl (m0_isFree g hl0 gj hz hj) ?_
            refine ev_if_eqF dX0_isToJoin_48 64 (by decide) (by first | assumption | exact nI_ne0 (by omega) (by omega) | decide) ?_
            first | refine ev_aload_n dX0_isToJoin_51 rfl ?_ | refine ev_aload_nN dX0_isToJoin_51 rfl ?_
            refine ev_iload_n dX0_isToJoin_52 rfl ?_
            refine ev_iload_n dX0_isToJoin_53 rfl ?_
            refine ev_V2 dX0_isToJoin_54 st_RX0_94 na_X0_isBesideJoined (Nat.le_of_ble_eq_true rfl) (Nat.le_of_ble_eq_true rfl) (by repeat (first | assumption | exact up_s | refine (up_n (by omega)).trans ?_)) rfl (m0_beside g gj hJ hi hj) ?_
            refine ev_if_eqT (tgt := 64) dX0_isToJoin_57 (by decide) (by first | assumption | exact z_eq (by omega) | decide) ?_
            refine ev_iconst dX0_isToJoin_64 ci0 ?_
            exact ev_zreturnE dX0_isToJoin_65 rfl (by first | exact Or.inl rfl | exact Or.inr rfl | assumption | exact z01 (bI_01 _) | exact z01 (by omega)) (by rfl)
          · have e4 : bI (nrow J i &&& nbit j ≠ 0) = 1 := bI_t q4
            rw [bI_t ⟨q1, q2, Or.inr q5, q4⟩]
            first | refine ev_aload_n dX0_isToJoin_0 rfl ?_ | refine ev_aload_nN dX0_isToJoin_0 rfl ?_
            refine ev_getfield dX0_isToJoin_1 fl_RX0_15 (by repeat (first | assumption | exact up_s | refine (up_n (by omega)).trans ?_)) rfl ?_
            refine ev_iload_n dX0_isToJoin_4 rfl ?_
            refine ev_S2 dX0_isToJoin_5 st_RX0_28 na_X0_bitsAt (Nat.le_of_ble_eq_true rfl) (Nat.le_of_ble_eq_true rfl) (m0_bitsAtN ge hi) ?_
            refine ev_iload_n dX0_isToJoin_8 rfl ?_
            refine ev_S1 dX0_isToJoin_9 st_RX0_41 na_X0_bitOf (Nat.le_of_ble_eq_true rfl) (Nat.le_of_ble_eq_true rfl) (m0_bitOfN hj) ?_
            first | refine ev_iandN dX0_isToJoin_12 ?_ | refine ev_iand dX0_isToJoin_12 ?_
            refine ev_if_eqF dX0_isToJoin_13 20 (by decide) (by first | assumption | exact nI_ne0 (by omega) (by omega) | decide) ?_
            refine ev_iconst dX0_isToJoin_16 ci1 ?_
            refine ev_goto (tgt := 21) dX0_isToJoin_17 (by decide) ?_
            refine ev_istore_n dX0_isToJoin_21 (Nat.le_of_ble_eq_true rfl) ?_
            refine ev_iload_n dX0_isToJoin_22 rfl ?_
            refine ev_if_eqF dX0_isToJoin_23 64 (by decide) (by first | assumption | exact nI_ne0 (by omega) (by omega) | decide) ?_
            first | refine ev_aload_n dX0_isToJoin_26 rfl ?_ | refine ev_aload_nN dX0_isToJoin_26 rfl ?_
            refine ev_iload_n dX0_isToJoin_27 rfl ?_
            refine ev_iload_n dX0_isToJoin_28 rfl ?_
            refine ev_V2 dX0_isToJoin_29 st_RX0_87 na_X0_hasJoined (Nat.le_of_ble_eq_true rfl) (Nat.le_of_ble_eq_true rfl) (by repeat (first | assumption | exact up_s | refine (up_n (by omega)).trans ?_)) rfl (m0_hasJoined g gj hi hj) ?_
            refine ev_if_neF dX0_isToJoin_32 64 (by decide) (by first | assumption | exact z_eq (by omega) | decide) ?_
            first | refine ev_aload_n dX0_isToJoin_35 rfl ?_ | refine ev_aload_nN dX0_isToJoin_35 rfl ?_
            refine ev_iload_n dX0_isToJoin_36 rfl ?_
            refine ev_V1 dX0_isToJoin_37 st_RX0_32 na_X0_joinedBits (Nat.le_of_ble_eq_true rfl) (Nat.le_of_ble_eq_true rfl) (by repeat (first | assumption | exact up_s | refine (up_n (by omega)).trans ?_)) rfl (m0_joinedBitsN g gj hi) ?_
            refine ev_if_eqF dX0_isToJoin_40 51 (by decide) (by first | assumption | exact nI_ne0 (by omega) (by omega) | decide) ?_
            first | refine ev_aload_n dX0_isToJoin_43 rfl ?_ | refine ev_aload_nN dX0_isToJoin_43 rfl ?_
            refine ev_iload_n dX0_isToJoin_44 rfl ?_
            refine ev_V1 dX0_isToJoin_45 st_RX0_90 na_X0_isFree (Nat.le_of_ble_eq_true rfl) (Nat.le_of_ble_eq_true rfl) (by repeat (first | assumption | exact up_s | refine (up_n (by omega)).trans ?_)) rfl (m0_isFree g hl0 gj hz hj) ?_
            refine ev_if_eqF dX0_isToJoin_48 64 (by decide) (by first | assumption | exact nI_ne0 (by omega) (by omega) | decide) ?_
            first | refine ev_aload_n dX0_isToJoin_51 rfl ?_ | refine ev_aload_nN dX0_isToJoin_51 rfl ?_
            refine ev_iload_n dX0_isToJoin_52 rfl ?_
            refine ev_iload_n dX0_isToJoin_53 rfl ?_
            refine ev_V2 dX0_isToJoin_54 st_RX0_94 na_X0_isBesideJoined (Nat.le_of_ble_eq_true rfl) (Nat.le_of_ble_eq_true rfl) (by repeat (first | assumption | exact up_s | refine (up_n (by omega)).trans ?_)) rfl (m0_beside g gj hJ hi hj) ?_
            refine ev_if_eqF dX0_isToJoin_57 64 (by decide) (by first | assumption | exact nI_ne0 (by omega) (by omega) | decide) ?_
            refine ev_iconst dX0_isToJoin_60 ci1 ?_
            refine ev_goto (tgt := 65) dX0_isToJoin_61 (by decide) ?_
            exact ev_zreturnE dX0_isToJoin_65 rfl (by first | exact Or.inl rfl | exact Or.inr rfl | assumption | exact z01 (bI_01 _) | exact z01 (by omega)) (by rfl)
        · have e5 : bI (orF J 8 &&& 2 ^ j = 0) = 0 := bI_f q5
          rw [bI_f (fun c => c.2.2.1.elim q3 q5)]
          first | refine ev_aload_n dX0_isToJoin_0 rfl ?_ | refine ev_aload_nN dX0_isToJoin_0 rfl ?_
          refine ev_getfield dX0_isToJoin_1 fl_RX0_15 (by repeat (first | assumption | exact up_s | refine (up_n (by omega)).trans ?_)) rfl ?_
          refine ev_iload_n dX0_isToJoin_4 rfl ?_
          refine ev_S2 dX0_isToJoin_5 st_RX0_28 na_X0_bitsAt (Nat.le_of_ble_eq_true rfl) (Nat.le_of_ble_eq_true rfl) (m0_bitsAtN ge hi) ?_
          refine ev_iload_n dX0_isToJoin_8 rfl ?_
          refine ev_S1 dX0_isToJoin_9 st_RX0_41 na_X0_bitOf (Nat.le_of_ble_eq_true rfl) (Nat.le_of_ble_eq_true rfl) (m0_bitOfN hj) ?_
          first | refine ev_iandN dX0_isToJoin_12 ?_ | refine ev_iand dX0_isToJoin_12 ?_
          refine ev_if_eqF dX0_isToJoin_13 20 (by decide) (by first | assumption | exact nI_ne0 (by omega) (by omega) | decide) ?_
          refine ev_iconst dX0_isToJoin_16 ci1 ?_
          refine ev_goto (tgt := 21) dX0_isToJoin_17 (by decide) ?_
          refine ev_istore_n dX0_isToJoin_21 (Nat.le_of_ble_eq_true rfl) ?_
          refine ev_iload_n dX0_isToJoin_22 rfl ?_
          refine ev_if_eqF dX0_isToJoin_23 64 (by decide) (by first | assumption | exact nI_ne0 (by omega) (by omega) | decide) ?_
          first | refine ev_aload_n dX0_isToJoin_26 rfl ?_ | refine ev_aload_nN dX0_isToJoin_26 rfl ?_
          refine ev_iload_n dX0_isToJoin_27 rfl ?_
          refine ev_iload_n dX0_isToJoin_28 rfl ?_
          refine ev_V2 dX0_isToJoin_29 st_RX0_87 na_X0_hasJoined (Nat.le_of_ble_eq_true rfl) (Nat.le_of_ble_eq_true rfl) (by repeat (first | assumption | exact up_s | refine (up_n (by omega)).trans ?_)) rfl (m0_hasJoined g gj hi hj) ?_
          refine ev_if_neF dX0_isToJoin_32 64 (by decide) (by first | assumption | exact z_eq (by omega) | decide) ?_
          first | refine ev_aload_n dX0_isToJoin_35 rfl ?_ | refine ev_aload_nN dX0_isToJoin_35 rfl ?_
          refine ev_iload_n dX0_isToJoin_36 rfl ?_
          refine ev_V1 dX0_isToJoin_37 st_RX0_32 na_X0_joinedBits (Nat.le_of_ble_eq_true rfl) (Nat.le_of_ble_eq_true rfl) (by repeat (first | assumption | exact up_s | refine (up_n (by omega)).trans ?_)) rfl (m0_joinedBitsN g gj hi) ?_
          refine ev_if_eqF dX0_isToJoin_40 51 (by decide) (by first | assumption | exact nI_ne0 (by omega) (by omega) | decide) ?_
          first | refine ev_aload_n dX0_isToJoin_43 rfl ?_ | refine ev_aload_nN dX0_isToJoin_43 rfl ?_
          refine ev_iload_n dX0_isToJoin_44 rfl ?_
          refine ev_V1 dX0_isToJoin_45 st_RX0_90 na_X0_isFree (Nat.le_of_ble_eq_true rfl) (Nat.le_of_ble_eq_true rfl) (by repeat (first | assumption | exact up_s | refine (up_n (by omega)).trans ?_)) rfl (m0_isFree g hl0 gj hz hj) ?_
          refine ev_if_eqT (tgt := 64) dX0_isToJoin_48 (by decide) (by first | assumption | exact z_eq (by omega) | decide) ?_
          refine ev_iconst dX0_isToJoin_64 ci0 ?_
          exact ev_zreturnE dX0_isToJoin_65 rfl (by first | exact Or.inl rfl | exact Or.inr rfl | assumption | exact z01 (bI_01 _) | exact z01 (by omega)) (by rfl)
    · have e2 : bI (J i &&& 2 ^ j ≠ 0) = 1 := bI_t q2
      rw [bI_f (fun c => q2 c.2.1)]
      first | refine ev_aload_n dX0_isToJoin_0 rfl ?_ | refine ev_aload_nN dX0_isToJoin_0 rfl ?_
      refine ev_getfield dX0_isToJoin_1 fl_RX0_15 (by repeat (first | assumption | exact up_s | refine (up_n (by omega)).trans ?_)) rfl ?_
      refine ev_iload_n dX0_isToJoin_4 rfl ?_
      refine ev_S2 dX0_isToJoin_5 st_RX0_28 na_X0_bitsAt (Nat.le_of_ble_eq_true rfl) (Nat.le_of_ble_eq_true rfl) (m0_bitsAtN ge hi) ?_
      refine ev_iload_n dX0_isToJoin_8 rfl ?_
      refine ev_S1 dX0_isToJoin_9 st_RX0_41 na_X0_bitOf (Nat.le_of_ble_eq_true rfl) (Nat.le_of_ble_eq_true rfl) (m0_bitOfN hj) ?_
      first | refine ev_iandN dX0_isToJoin_12 ?_ | refine ev_iand dX0_isToJoin_12 ?_
      refine ev_if_eqF dX0_isToJoin_13 20 (by decide) (by first | assumption | exact nI_ne0 (by omega) (by omega) | decide) ?_
      refine ev_iconst dX0_isToJoin_16 ci1 ?_
      refine ev_goto (tgt := 21) dX0_isToJoin_17 (by decide) ?_
      refine ev_istore_n dX0_isToJoin_21 (Nat.le_of_ble_eq_true rfl) ?_
      refine ev_iload_n dX0_isToJoin_22 rfl ?_
      refine ev_if_eqF dX0_isToJoin_23 64 (by decide) (by first | assumption | exact nI_ne0 (by omega) (by omega) | decide) ?_
      first | refine ev_aload_n dX0_isToJoin_26 rfl ?_ | refine ev_aload_nN dX0_isToJoin_26 rfl ?_
      refine ev_iload_n dX0_isToJoin_27 rfl ?_
      refine ev_iload_n dX0_isToJoin_28 rfl ?_
      refine ev_V2 dX0_isToJoin_29 st_RX0_87 na_X0_hasJoined (Nat.le_of_ble_eq_true rfl) (Nat.le_of_ble_eq_true rfl) (by repeat (first | assumption | exact up_s | refine (up_n (by omega)).trans ?_)) rfl (m0_hasJoined g gj hi hj) ?_
      refine ev_if_neT (tgt := 64) dX0_isToJoin_32 (by decide) (by first | assumption | exact nI_ne0 (by omega) (by omega) | decide) ?_
      refine ev_iconst dX0_isToJoin_64 ci0 ?_
      exact ev_zreturnE dX0_isToJoin_65 rfl (by first | exact Or.inl rfl | exact Or.inr rfl | assumption | exact z01 (bI_01 _) | exact z01 (by omega)) (by rfl)
theorem m0_join (g : Ah h l0 l1) (gj : h 21 = aI 8 J) {i j : Nat} (hi : i < 8) (hj : j < 8) : Ev (d + 1) MX0_join 0 (lv_args 0 [.ref 18, .int (nI i), .int (nI j)]) [] n h (.inl none, n, va_up h 21 (aI 8 (va_up J i (J i ||| 2 ^ j))), 0, 0) := by
  refine ev_iload_n dX0_join_0 rfl ?_
  refine ev_if_ltF dX0_join_1 26 (by decide) (by first | assumption | exact nI_pos (by omega) | decide) ?_
  refine ev_iload_n dX0_join_4 rfl ?_
  first | refine ev_aload_n dX0_join_5 rfl ?_ | refine ev_aload_nN dX0_join_5 rfl ?_
  refine ev_getfield dX0_join_6 fl_RX0_18 (by repeat (first | assumption | exact up_s | refine (up_n (by omega)).trans ?_)) rfl ?_
  refine ev_alen dX0_join_9 (by repeat (first | assumption | exact up_s | refine (up_n (by omega)).trans ?_)) (by decide) ?_
  refine ev_icmp_geF dX0_join_10 26 (by decide) (by first | assumption | exact nI_ge (by omega) (by omega) | decide) ?_
  first | refine ev_aload_n dX0_join_13 rfl ?_ | refine ev_aload_nN dX0_join_13 rfl ?_
  refine ev_getfield dX0_join_14 fl_RX0_18 (by repeat (first | assumption | exact up_s | refine (up_n (by omega)).trans ?_)) rfl ?_
  refine ev_iload_n dX0_join_17 rfl ?_
  refine ev_dup2_11 dX0_join_18 rfl rfl ?_
  refine ev_iald dX0_join_19 (by repeat (first | assumption | exact up_s | refine (up_n (by omega)).trans ?_)) _ rfl (by omega) (by omega) ?_
  refine ev_iload_n dX0_join_20 rfl ?_
  refine ev_S1 dX0_join_21 st_RX0_41 na_X0_bitOf (Nat.le_of_ble_eq_true rfl) (Nat.le_of_ble_eq_true rfl) (m0_bitOfN hj) ?_
  first | refine ev_iorN dX0_join_24 ?_ | refine ev_ior dX0_join_24 ?_
  refine ev_iast dX0_join_25 (by omega) (by repeat (first | assumption | exact up_s | refine (up_n (by omega)).trans ?_)) _ _ rfl rfl (by omega) (by omega) ?_
  exact ev_vreturnE dX0_join_26 rfl (by rfl)
/-- a sweep: the cells in their order, and whether one was joined -/
def stp (E : Nat → Nat) (x : (Nat → Nat) × Nat) (k : Nat) : (Nat → Nat) × Nat := if toJ E x.1 (k / 8) (k % 8) then (va_up x.1 (k / 8) (x.1 (k / 8) ||| 2 ^ (k % 8)), 1) else x
def swp (E : Nat → Nat) : Nat → (Nat → Nat) × Nat → (Nat → Nat) × Nat
  | 0, x => x
  | k + 1, x => stp E (swp E k x) k
theorem swp_inv {E : Nat → Nat} {x : (Nat → Nat) × Nat} (hE0 : ∀ i, l0 ≤ i → E i = 0) (hJ : ∀ i, x.1 i < 256) (hz : ∀ i, l0 ≤ i → x.1 i = 0) (h2 : x.2 = 0 ∨ x.2 = 1) : ∀ k, (∀ i, (swp E k x).1 i < 256) ∧ (∀ i, l0 ≤ i → (swp E k x).1 i = 0) ∧ ((swp E k x).2 = 0 ∨ (swp E k x).2 = 1)
  | 0 => ⟨hJ, hz, h2⟩
  | k + 1 => by
    obtain ⟨i1, i2, i3⟩ := swp_inv hE0 hJ hz h2 k
    show (∀ i, (stp E (swp E k x) k).1 i < 256) ∧ (∀ i, l0 ≤ i → (stp E (swp E k x) k).1 i = 0) ∧ ((stp E (swp E k x) k).2 = 0 ∨ (stp E (swp E k x) k).2 = 1)
    generalize swp E k x = y at i1 i2 i3 ⊢
    unfold stp
    split
    · next c =>
      refine ⟨fun i => ?_, fun i hi => ?_, Or.inr rfl⟩
      · show va_up _ _ _ i < 256
        unfold va_up
        split
        · refine or_lt (i1 _) ?_
          have hm : k % 8 < 8 := Nat.mod_lt _ (by omega)
          have : ∀ j, j < 8 → 2 ^ j < 256 := by decide
          exact this _ hm
        · exact i1 i
      · show va_up _ _ _ i = 0
        unfold va_up
        split
        · next q => exact absurd (by rw [hE0 _ (by omega), Nat.zero_and]) c.1
        · exact i2 i hi
    · exact ⟨i1, i2, i3⟩
theorem swp_row {E : Nat → Nat} {x : (Nat → Nat) × Nat} (hE1 : ∀ i j, l1 ≤ j → j < 8 → E i &&& 2 ^ j = 0) {i : Nat} : ∀ m, l1 ≤ m → m ≤ 8 → swp E (8 * i + m) x = swp E (8 * i + l1) x := by
  intro m hm h8
  induction m with
  | zero => have : l1 = 0 := by omega
            subst this; rfl
  | succ m ih =>
    rcases Nat.lt_or_ge l1 (m + 1) with q | q
    · show stp E (swp E (8 * i + m) x) (8 * i + m) = _
      have e1 : (8 * i + m) / 8 = i := by omega
      have e2 : (8 * i + m) % 8 = m := by omega
      unfold stp
      rw [if_neg (by rw [e1, e2]; exact fun c => c.1 (hE1 i m (by omega) (by omega)))]
      exact ih (by omega) (by omega)
    · have : l1 = m + 1 := by omega
      subst this; rfl
theorem swp_end {E : Nat → Nat} {x : (Nat → Nat) × Nat} (hE0 : ∀ i, l0 ≤ i → E i = 0) : ∀ m, 8 * l0 ≤ m → swp E m x = swp E (8 * l0) x := by
  intro m hm
  induction m with
  | zero => have : l0 = 0 := by omega
            subst this; rfl
  | succ m ih =>
    rcases Nat.lt_or_ge (8 * l0) (m + 1) with q | q
    · show stp E (swp E m x) m = _
      unfold stp
      rw [if_neg (fun c => c.1 (by rw [hE0 (m / 8) (by omega), Nat.zero_and]))]
      exact ih (by omega)
    · have : 8 * l0 = m + 1 := by omega
      rw [this]
theorem lp_goI (g : Ah h l0 l1) (hl0 : l0 ≤ 8) (hl1 : l1 ≤ 8) (ge : h 20 = aI 8 E) (hE : ∀ i, E i < 256) (hE0 : ∀ i, l0 ≤ i → E i = 0) {x : (Nat → Nat) × Nat} (hJ : ∀ i, x.1 i < 256) (hz : ∀ i, l0 ≤ i → x.1 i = 0) (h2 : x.2 = 0 ∨ x.2 = 1) {i : Nat} (hi : i < l0) {o9 : Out} (K : Ev (d + 4) MX0_growOnce 45 [(0, .ref 18), (1, .int (nI (swp E (8 * i + l1) x).2)), (2, .int (nI i))] [] n (va_up h 21 (aI 8 (swp E (8 * i + l1) x).1)) o9) :
    ∀ k j, j + k = l1 → Ev (d + 4) MX0_growOnce 14 [(0, .ref 18), (1, .int (nI (swp E (8 * i + j) x).2)), (2, .int (nI i)), (3, .int (nI j))] [] n (va_up h 21 (aI 8 (swp E (8 * i + j) x).1)) o9 := by
  intro k
  induction k with
  | zero =>
    intro j hj
    have e : j = l1 := by omega
    subst e
    refine ev_iload_n dX0_growOnce_14 rfl ?_
    first | refine ev_aload_n dX0_growOnce_15 rfl ?_ | refine ev_aload_nN dX0_growOnce_15 rfl ?_
    refine ev_getfield dX0_growOnce_16 fl_RX0_25 (by repeat (first | assumption | exact up_s | refine (up_n (by omega)).trans ?_)) rfl ?_
    refine ev_icmp_geT (tgt := 45) dX0_growOnce_19 (by decide) (by first | assumption | exact nI_le (by omega) (by omega) | decide) ?_
    refine ev_sub ?_ (K)
    repeat (first | exact trivial | refine ⟨rfl, ?_⟩)
  | succ k ih =>
    intro j hj
    have ih := ih (j + 1) (by omega)
    obtain ⟨i1, i2, i3⟩ := swp_inv hE0 hJ hz h2 (8 * i + j)
    have e1 : (8 * i + j) / 8 = i := by omega
    have e2 : (8 * i + j) % 8 = j := by omega
    have e3 : swp E (8 * i + (j + 1)) x = stp E (swp E (8 * i + j) x) (8 * i + j) := rfl
    have gg : Ah (va_up h 21 (aI 8 (swp E (8 * i + j) x).1)) l0 l1 := (up_n (by omega)).trans g
    by_cases q : toJ E (swp E (8 * i + j) x).1 i j
    · have e4 : stp E (swp E (8 * i + j) x) (8 * i + j) = (va_up (swp E (8 * i + j) x).1 i ((swp E (8 * i + j) x).1 i ||| 2 ^ j), 1) := by
        unfold stp
        rw [e1, e2, if_pos q]
      rw [e3, e4] at ih
      have e5 : bI (toJ E (swp E (8 * i + j) x).1 i j) = 1 := bI_t q
      refine ev_iload_n dX0_growOnce_14 rfl ?_
      first | refine ev_aload_n dX0_growOnce_15 rfl ?_ | refine ev_aload_nN dX0_growOnce_15 rfl ?_
      refine ev_getfield dX0_growOnce_16 fl_RX0_25 (by repeat (first | assumption | exact up_s | refine (up_n (by omega)).trans ?_)) rfl ?_
      refine ev_icmp_geF dX0_growOnce_19 45 (by decide) (by first | assumption | exact nI_ge (by omega) (by omega) | decide) ?_
      first | refine ev_aload_n dX0_growOnce_22 rfl ?_ | refine ev_aload_nN dX0_growOnce_22 rfl ?_
      refine ev_iload_n dX0_growOnce_23 rfl ?_
      refine ev_iload_n dX0_growOnce_24 rfl ?_
      refine ev_V2 dX0_growOnce_25 st_RX0_80 na_X0_isToJoin (Nat.le_of_ble_eq_true rfl) (Nat.le_of_ble_eq_true rfl) (by repeat (first | assumption | exact up_s | refine (up_n (by omega)).trans ?_)) rfl (m0_isToJoin gg hl0 ((up_n (by omega)).trans ge) up_s hE i1 i2 (by omega) (by omega)) ?_
      refine ev_if_eqF dX0_growOnce_28 39 (by decide) (by first | assumption | exact nI_ne0 (by omega) (by omega) | decide) ?_
      first | refine ev_aload_n dX0_growOnce_31 rfl ?_ | refine ev_aload_nN dX0_growOnce_31 rfl ?_
      refine ev_iload_n dX0_growOnce_32 rfl ?_
      refine ev_iload_n dX0_growOnce_33 rfl ?_
      refine ev_V2v dX0_growOnce_34 st_RX0_84 na_X0_join (Nat.le_of_ble_eq_true rfl) (Nat.le_of_ble_eq_true rfl) (by repeat (first | assumption | exact up_s | refine (up_n (by omega)).trans ?_)) rfl (m0_join gg up_s (show i < 8 by omega) (show j < 8 by omega)) ?_
      refine ev_iconst dX0_growOnce_37 ci1 ?_
      refine ev_istore_n dX0_growOnce_38 (Nat.le_of_ble_eq_true rfl) ?_
      refine ev_iincN (b := 1) dX0_growOnce_39 rfl (Nat.le_of_ble_eq_true rfl) ?_
      refine ev_goto (tgt := 14) dX0_growOnce_42 (by decide) ?_
      refine ev_heap up_u ?_
      refine ev_sub ?_ (ih)
      repeat (first | exact trivial | refine ⟨rfl, ?_⟩)
    · have e4 : stp E (swp E (8 * i + j) x) (8 * i + j) = swp E (8 * i + j) x := by
        unfold stp
        rw [e1, e2, if_neg q]
      rw [e3, e4] at ih
      have e5 : bI (toJ E (swp E (8 * i + j) x).1 i j) = 0 := bI_f q
      refine ev_iload_n dX0_growOnce_14 rfl ?_
      first | refine ev_aload_n dX0_growOnce_15 rfl ?_ | refine ev_aload_nN dX0_growOnce_15 rfl ?_
      refine ev_getfield dX0_growOnce_16 fl_RX0_25 (by repeat (first | assumption | exact up_s | refine (up_n (by omega)).trans ?_)) rfl ?_
      refine ev_icmp_geF dX0_growOnce_19 45 (by decide) (by first | assumption | exact nI_ge (by omega) (by omega) | decide) ?_
      first | refine ev_aload_n dX0_growOnce_22 rfl ?_ | refine ev_aload_nN dX0_growOnce_22 rfl ?_
      refine ev_iload_n dX0_growOnce_23 rfl ?_
      refine ev_iload_n dX0_growOnce_24 rfl ?_
      refine ev_V2 dX0_growOnce_25 st_RX0_80 na_X0_isToJoin (Nat.le_of_ble_eq_true rfl) (Nat.le_of_ble_eq_true rfl) (by repeat (first | assumption | exact up_s | refine (up_n (by omega)).trans ?_)) rfl (m0_isToJoin gg hl0 ((up_n (by omega)).trans ge) up_s hE i1 i2 (by omega) (by omega)) ?_
      refine ev_if_eqT (tgt := 39) dX0_growOnce_28 (by decide) (by first | assumption | exact z_eq (by omega) | decide) ?_
      refine ev_iincN (b := 1) dX0_growOnce_39 rfl (Nat.le_of_ble_eq_true rfl) ?_
      refine ev_goto (tgt := 14) dX0_growOnce_42 (by decide) ?_
      refine ev_sub ?_ (ih)
      repeat (first | exact trivial | refine ⟨rfl, ?_⟩)
theorem lp_goO (g : Ah h l0 l1) (hl0 : l0 ≤ 8) (hl1 : l1 ≤ 8) (ge : h 20 = aI 8 E) (hE : ∀ i, E i < 256) (hE0 : ∀ i, l0 ≤ i → E i = 0) (hE1 : ∀ i j, l1 ≤ j → j < 8 → E i &&& 2 ^ j = 0) {x : (Nat → Nat) × Nat} (hJ : ∀ i, x.1 i < 256) (hz : ∀ i, l0 ≤ i → x.1 i = 0) (h2 : x.2 = 0 ∨ x.2 = 1) :
    ∀ k i, i + k = l0 → Ev (d + 4) MX0_growOnce 4 [(0, .ref 18), (1, .int (nI (swp E (8 * i) x).2)), (2, .int (nI i))] [] n (va_up h 21 (aI 8 (swp E (8 * i) x).1)) (.inl (some (.int (nI (swp E 64 x).2))), n, va_up h 21 (aI 8 (swp E 64 x).1), 0, 0) := by
  intro k
  induction k with
  | zero =>
    intro i hi
    have e : i = l0 := by omega
    subst e
    rw [← swp_end hE0 64 (by omega)]
    obtain ⟨i1, i2, i3⟩ := swp_inv hE0 hJ hz h2 64
    refine ev_iload_n dX0_growOnce_4 rfl ?_
    first | refine ev_aload_n dX0_growOnce_5 rfl ?_ | refine ev_aload_nN dX0_growOnce_5 rfl ?_
    refine ev_getfield dX0_growOnce_6 fl_RX0_21 (by repeat (first | assumption | exact up_s | refine (up_n (by omega)).trans ?_)) rfl ?_
    refine ev_icmp_geT (tgt := 51) dX0_growOnce_9 (by decide) (by first | assumption | exact nI_le (by omega) (by omega) | decide) ?_
    refine ev_iload_n dX0_growOnce_51 rfl ?_
    exact ev_zreturnE dX0_growOnce_52 rfl (z01 i3) rfl
  | succ k ih =>
    intro i hi
    have ih := ih (i + 1) (by omega)
    have e1 := swp_row (x := x) hE1 (i := i) 8 hl1 (Nat.le_refl _)
    rw [show 8 * (i + 1) = 8 * i + 8 by omega, e1] at ih
    refine ev_iload_n dX0_growOnce_4 rfl ?_
    first | refine ev_aload_n dX0_growOnce_5 rfl ?_ | refine ev_aload_nN dX0_growOnce_5 rfl ?_
    refine ev_getfield dX0_growOnce_6 fl_RX0_21 (by repeat (first | assumption | exact up_s | refine (up_n (by omega)).trans ?_)) rfl ?_
    refine ev_icmp_geF dX0_growOnce_9 51 (by decide) (by first | assumption | exact nI_ge (by omega) (by omega) | decide) ?_
    refine ev_iconst dX0_growOnce_12 ci0 ?_
    refine ev_istore_n dX0_growOnce_13 (Nat.le_of_ble_eq_true rfl) ?_
    refine ev_sub ?_ (lp_goI (i := i) (x := x) g hl0 hl1 ge hE hE0 hJ hz h2 (by omega) ?_ l1 0 (by omega))
    · repeat (first | exact trivial | refine ⟨rfl, ?_⟩)
    · refine ev_iincN (b := 1) dX0_growOnce_45 rfl (Nat.le_of_ble_eq_true rfl) ?_
      refine ev_goto (tgt := 4) dX0_growOnce_48 (by decide) ?_
      refine ev_sub ?_ (ih)
      repeat (first | exact trivial | refine ⟨rfl, ?_⟩)
theorem m0_growOnce (g : Ah h l0 l1) (hl0 : l0 ≤ 8) (hl1 : l1 ≤ 8) (ge : h 20 = aI 8 E) (hE : ∀ i, E i < 256) (hE0 : ∀ i, l0 ≤ i → E i = 0) (hE1 : ∀ i j, l1 ≤ j → j < 8 → E i &&& 2 ^ j = 0) (hJ : ∀ i, J i < 256) (hz : ∀ i, l0 ≤ i → J i = 0) : Ev (d + 4) MX0_growOnce 0 (lv_args 0 [.ref 18]) [] n (va_up h 21 (aI 8 J)) (.inl (some (.int (nI (swp E 64 (J, 0)).2))), n, va_up h 21 (aI 8 (swp E 64 (J, 0)).1), 0, 0) := by
  refine ev_iconst dX0_growOnce_0 ci0 ?_
  refine ev_istore_n dX0_growOnce_1 (Nat.le_of_ble_eq_true rfl) ?_
  refine ev_iconst dX0_growOnce_2 ci0 ?_
  refine ev_istore_n dX0_growOnce_3 (Nat.le_of_ble_eq_true rfl) ?_
  refine ev_sub ?_ (lp_goO (x := (J, 0)) g hl0 hl1 ge hE hE0 hE1 hJ hz (Or.inl rfl) l0 0 (by omega))
  repeat (first | exact trivial | refine ⟨rfl, ?_⟩)
end M0B
