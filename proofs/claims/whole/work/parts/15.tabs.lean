theorem eX5_entry_1_1 {B : Nat} {ad : Nat → Nat} {K : xK} {L r : List Value} {σ : xW} : wX5_entry B ad K 1 L (.int 1 :: r) σ ↔ wX5_entry B ad K 48 L r σ := xr_tab_in (off := 47) dX5_entry_1 (by decide) (by decide) (by decide) (by decide)
theorem eX5_entry_1_2 {B : Nat} {ad : Nat → Nat} {K : xK} {L r : List Value} {σ : xW} : wX5_entry B ad K 1 L (.int 2 :: r) σ ↔ wX5_entry B ad K 53 L r σ := xr_tab_in (off := 52) dX5_entry_1 (by decide) (by decide) (by decide) (by decide)
theorem eX5_entry_1_3 {B : Nat} {ad : Nat → Nat} {K : xK} {L r : List Value} {σ : xW} : wX5_entry B ad K 1 L (.int 3 :: r) σ ↔ wX5_entry B ad K 58 L r σ := xr_tab_in (off := 57) dX5_entry_1 (by decide) (by decide) (by decide) (by decide)
theorem eX5_entry_1_4 {B : Nat} {ad : Nat → Nat} {K : xK} {L r : List Value} {σ : xW} : wX5_entry B ad K 1 L (.int 4 :: r) σ ↔ wX5_entry B ad K 63 L r σ := xr_tab_in (off := 62) dX5_entry_1 (by decide) (by decide) (by decide) (by decide)
theorem eX5_entry_1_5 {B : Nat} {ad : Nat → Nat} {K : xK} {L r : List Value} {σ : xW} : wX5_entry B ad K 1 L (.int 5 :: r) σ ↔ wX5_entry B ad K 63 L r σ := xr_tab_in (off := 62) dX5_entry_1 (by decide) (by decide) (by decide) (by decide)
theorem eX5_entry_1_6 {B : Nat} {ad : Nat → Nat} {K : xK} {L r : List Value} {σ : xW} : wX5_entry B ad K 1 L (.int 6 :: r) σ ↔ wX5_entry B ad K 63 L r σ := xr_tab_in (off := 62) dX5_entry_1 (by decide) (by decide) (by decide) (by decide)
theorem eX5_entry_1_7 {B : Nat} {ad : Nat → Nat} {K : xK} {L r : List Value} {σ : xW} : wX5_entry B ad K 1 L (.int 7 :: r) σ ↔ wX5_entry B ad K 63 L r σ := xr_tab_in (off := 62) dX5_entry_1 (by decide) (by decide) (by decide) (by decide)
theorem eX5_entry_1_8 {B : Nat} {ad : Nat → Nat} {K : xK} {L r : List Value} {σ : xW} : wX5_entry B ad K 1 L (.int 8 :: r) σ ↔ wX5_entry B ad K 72 L r σ := xr_tab_in (off := 71) dX5_entry_1 (by decide) (by decide) (by decide) (by decide)
theorem eX5_entry_1_o {B : Nat} {ad : Nat → Nat} {K : xK} {L r : List Value} {σ : xW} {x : Int32} (hc : x.toInt < 1 ∨ 8 < x.toInt) : wX5_entry B ad K 1 L (.int x :: r) σ ↔ wX5_entry B ad K 77 L r σ := xr_tab_out dX5_entry_1 (by decide) hc
theorem eX7_told_15_0 {B : Nat} {ad : Nat → Nat} {K : xK} {L r : List Value} {σ : xW} : wX7_told B ad K 15 L (.int 0 :: r) σ ↔ wX7_told B ad K 88 L r σ := xr_tab_in (off := 73) dX7_told_15 (by decide) (by decide) (by decide) (by decide)
theorem eX7_told_15_1 {B : Nat} {ad : Nat → Nat} {K : xK} {L r : List Value} {σ : xW} : wX7_told B ad K 15 L (.int 1 :: r) σ ↔ wX7_told B ad K 119 L r σ := xr_tab_in (off := 104) dX7_told_15 (by decide) (by decide) (by decide) (by decide)
theorem eX7_told_15_2 {B : Nat} {ad : Nat → Nat} {K : xK} {L r : List Value} {σ : xW} : wX7_told B ad K 15 L (.int 2 :: r) σ ↔ wX7_told B ad K 119 L r σ := xr_tab_in (off := 104) dX7_told_15 (by decide) (by decide) (by decide) (by decide)
theorem eX7_told_15_3 {B : Nat} {ad : Nat → Nat} {K : xK} {L r : List Value} {σ : xW} : wX7_told B ad K 15 L (.int 3 :: r) σ ↔ wX7_told B ad K 119 L r σ := xr_tab_in (off := 104) dX7_told_15 (by decide) (by decide) (by decide) (by decide)
theorem eX7_told_15_4 {B : Nat} {ad : Nat → Nat} {K : xK} {L r : List Value} {σ : xW} : wX7_told B ad K 15 L (.int 4 :: r) σ ↔ wX7_told B ad K 119 L r σ := xr_tab_in (off := 104) dX7_told_15 (by decide) (by decide) (by decide) (by decide)
theorem eX7_told_15_5 {B : Nat} {ad : Nat → Nat} {K : xK} {L r : List Value} {σ : xW} : wX7_told B ad K 15 L (.int 5 :: r) σ ↔ wX7_told B ad K 119 L r σ := xr_tab_in (off := 104) dX7_told_15 (by decide) (by decide) (by decide) (by decide)
theorem eX7_told_15_6 {B : Nat} {ad : Nat → Nat} {K : xK} {L r : List Value} {σ : xW} : wX7_told B ad K 15 L (.int 6 :: r) σ ↔ wX7_told B ad K 119 L r σ := xr_tab_in (off := 104) dX7_told_15 (by decide) (by decide) (by decide) (by decide)
theorem eX7_told_15_7 {B : Nat} {ad : Nat → Nat} {K : xK} {L r : List Value} {σ : xW} : wX7_told B ad K 15 L (.int 7 :: r) σ ↔ wX7_told B ad K 119 L r σ := xr_tab_in (off := 104) dX7_told_15 (by decide) (by decide) (by decide) (by decide)
theorem eX7_told_15_8 {B : Nat} {ad : Nat → Nat} {K : xK} {L r : List Value} {σ : xW} : wX7_told B ad K 15 L (.int 8 :: r) σ ↔ wX7_told B ad K 119 L r σ := xr_tab_in (off := 104) dX7_told_15 (by decide) (by decide) (by decide) (by decide)
theorem eX7_told_15_9 {B : Nat} {ad : Nat → Nat} {K : xK} {L r : List Value} {σ : xW} : wX7_told B ad K 15 L (.int 9 :: r) σ ↔ wX7_told B ad K 95 L r σ := xr_tab_in (off := 80) dX7_told_15 (by decide) (by decide) (by decide) (by decide)
theorem eX7_told_15_10 {B : Nat} {ad : Nat → Nat} {K : xK} {L r : List Value} {σ : xW} : wX7_told B ad K 15 L (.int 10 :: r) σ ↔ wX7_told B ad K 100 L r σ := xr_tab_in (off := 85) dX7_told_15 (by decide) (by decide) (by decide) (by decide)
theorem eX7_told_15_11 {B : Nat} {ad : Nat → Nat} {K : xK} {L r : List Value} {σ : xW} : wX7_told B ad K 15 L (.int 11 :: r) σ ↔ wX7_told B ad K 106 L r σ := xr_tab_in (off := 91) dX7_told_15 (by decide) (by decide) (by decide) (by decide)
theorem eX7_told_15_12 {B : Nat} {ad : Nat → Nat} {K : xK} {L r : List Value} {σ : xW} : wX7_told B ad K 15 L (.int 12 :: r) σ ↔ wX7_told B ad K 106 L r σ := xr_tab_in (off := 91) dX7_told_15 (by decide) (by decide) (by decide) (by decide)
theorem eX7_told_15_13 {B : Nat} {ad : Nat → Nat} {K : xK} {L r : List Value} {σ : xW} : wX7_told B ad K 15 L (.int 13 :: r) σ ↔ wX7_told B ad K 106 L r σ := xr_tab_in (off := 91) dX7_told_15 (by decide) (by decide) (by decide) (by decide)
theorem eX7_told_15_14 {B : Nat} {ad : Nat → Nat} {K : xK} {L r : List Value} {σ : xW} : wX7_told B ad K 15 L (.int 14 :: r) σ ↔ wX7_told B ad K 106 L r σ := xr_tab_in (off := 91) dX7_told_15 (by decide) (by decide) (by decide) (by decide)
theorem eX7_told_15_o {B : Nat} {ad : Nat → Nat} {K : xK} {L r : List Value} {σ : xW} {x : Int32} (hc : x.toInt < 0 ∨ 14 < x.toInt) : wX7_told B ad K 15 L (.int x :: r) σ ↔ wX7_told B ad K 119 L r σ := xr_tab_out dX7_told_15 (by decide) hc
theorem eX7_now_10_0 {B : Nat} {ad : Nat → Nat} {K : xK} {L r : List Value} {σ : xW} : wX7_now B ad K 10 L (.int 0 :: r) σ ↔ wX7_now B ad K 80 L r σ := xr_tab_in (off := 70) dX7_now_10 (by decide) (by decide) (by decide) (by decide)
theorem eX7_now_10_1 {B : Nat} {ad : Nat → Nat} {K : xK} {L r : List Value} {σ : xW} : wX7_now B ad K 10 L (.int 1 :: r) σ ↔ wX7_now B ad K 144 L r σ := xr_tab_in (off := 134) dX7_now_10 (by decide) (by decide) (by decide) (by decide)
theorem eX7_now_10_2 {B : Nat} {ad : Nat → Nat} {K : xK} {L r : List Value} {σ : xW} : wX7_now B ad K 10 L (.int 2 :: r) σ ↔ wX7_now B ad K 144 L r σ := xr_tab_in (off := 134) dX7_now_10 (by decide) (by decide) (by decide) (by decide)
theorem eX7_now_10_3 {B : Nat} {ad : Nat → Nat} {K : xK} {L r : List Value} {σ : xW} : wX7_now B ad K 10 L (.int 3 :: r) σ ↔ wX7_now B ad K 144 L r σ := xr_tab_in (off := 134) dX7_now_10 (by decide) (by decide) (by decide) (by decide)
theorem eX7_now_10_4 {B : Nat} {ad : Nat → Nat} {K : xK} {L r : List Value} {σ : xW} : wX7_now B ad K 10 L (.int 4 :: r) σ ↔ wX7_now B ad K 144 L r σ := xr_tab_in (off := 134) dX7_now_10 (by decide) (by decide) (by decide) (by decide)
theorem eX7_now_10_5 {B : Nat} {ad : Nat → Nat} {K : xK} {L r : List Value} {σ : xW} : wX7_now B ad K 10 L (.int 5 :: r) σ ↔ wX7_now B ad K 144 L r σ := xr_tab_in (off := 134) dX7_now_10 (by decide) (by decide) (by decide) (by decide)
theorem eX7_now_10_6 {B : Nat} {ad : Nat → Nat} {K : xK} {L r : List Value} {σ : xW} : wX7_now B ad K 10 L (.int 6 :: r) σ ↔ wX7_now B ad K 144 L r σ := xr_tab_in (off := 134) dX7_now_10 (by decide) (by decide) (by decide) (by decide)
theorem eX7_now_10_7 {B : Nat} {ad : Nat → Nat} {K : xK} {L r : List Value} {σ : xW} : wX7_now B ad K 10 L (.int 7 :: r) σ ↔ wX7_now B ad K 144 L r σ := xr_tab_in (off := 134) dX7_now_10 (by decide) (by decide) (by decide) (by decide)
theorem eX7_now_10_8 {B : Nat} {ad : Nat → Nat} {K : xK} {L r : List Value} {σ : xW} : wX7_now B ad K 10 L (.int 8 :: r) σ ↔ wX7_now B ad K 144 L r σ := xr_tab_in (off := 134) dX7_now_10 (by decide) (by decide) (by decide) (by decide)
theorem eX7_now_10_9 {B : Nat} {ad : Nat → Nat} {K : xK} {L r : List Value} {σ : xW} : wX7_now B ad K 10 L (.int 9 :: r) σ ↔ wX7_now B ad K 89 L r σ := xr_tab_in (off := 79) dX7_now_10 (by decide) (by decide) (by decide) (by decide)
theorem eX7_now_10_10 {B : Nat} {ad : Nat → Nat} {K : xK} {L r : List Value} {σ : xW} : wX7_now B ad K 10 L (.int 10 :: r) σ ↔ wX7_now B ad K 97 L r σ := xr_tab_in (off := 87) dX7_now_10 (by decide) (by decide) (by decide) (by decide)
theorem eX7_now_10_11 {B : Nat} {ad : Nat → Nat} {K : xK} {L r : List Value} {σ : xW} : wX7_now B ad K 10 L (.int 11 :: r) σ ↔ wX7_now B ad K 105 L r σ := xr_tab_in (off := 95) dX7_now_10 (by decide) (by decide) (by decide) (by decide)
theorem eX7_now_10_12 {B : Nat} {ad : Nat → Nat} {K : xK} {L r : List Value} {σ : xW} : wX7_now B ad K 10 L (.int 12 :: r) σ ↔ wX7_now B ad K 114 L r σ := xr_tab_in (off := 104) dX7_now_10 (by decide) (by decide) (by decide) (by decide)
theorem eX7_now_10_13 {B : Nat} {ad : Nat → Nat} {K : xK} {L r : List Value} {σ : xW} : wX7_now B ad K 10 L (.int 13 :: r) σ ↔ wX7_now B ad K 130 L r σ := xr_tab_in (off := 120) dX7_now_10 (by decide) (by decide) (by decide) (by decide)
theorem eX7_now_10_o {B : Nat} {ad : Nat → Nat} {K : xK} {L r : List Value} {σ : xW} {x : Int32} (hc : x.toInt < 0 ∨ 13 < x.toInt) : wX7_now B ad K 10 L (.int x :: r) σ ↔ wX7_now B ad K 144 L r σ := xr_tab_out dX7_now_10 (by decide) hc
theorem eX7_count_1_0 {B : Nat} {ad : Nat → Nat} {K : xK} {L r : List Value} {σ : xW} : wX7_count B ad K 1 L (.int 0 :: r) σ ↔ wX7_count B ad K 28 L r σ := xr_tab_in (off := 27) dX7_count_1 (by decide) (by decide) (by decide) (by decide)
theorem eX7_count_1_1 {B : Nat} {ad : Nat → Nat} {K : xK} {L r : List Value} {σ : xW} : wX7_count B ad K 1 L (.int 1 :: r) σ ↔ wX7_count B ad K 33 L r σ := xr_tab_in (off := 32) dX7_count_1 (by decide) (by decide) (by decide) (by decide)
theorem eX7_count_1_2 {B : Nat} {ad : Nat → Nat} {K : xK} {L r : List Value} {σ : xW} : wX7_count B ad K 1 L (.int 2 :: r) σ ↔ wX7_count B ad K 38 L r σ := xr_tab_in (off := 37) dX7_count_1 (by decide) (by decide) (by decide) (by decide)
theorem eX7_count_1_o {B : Nat} {ad : Nat → Nat} {K : xK} {L r : List Value} {σ : xW} {x : Int32} (hc : x.toInt < 0 ∨ 2 < x.toInt) : wX7_count B ad K 1 L (.int x :: r) σ ↔ wX7_count B ad K 43 L r σ := xr_tab_out dX7_count_1 (by decide) hc
theorem eX8_put_58_0 {B : Nat} {ad : Nat → Nat} {K : xK} {L r : List Value} {σ : xW} : wX8_put B ad K 58 L (.int 0 :: r) σ ↔ wX8_put B ad K 92 L r σ := xr_tab_in (off := 34) dX8_put_58 (by decide) (by decide) (by decide) (by decide)
theorem eX8_put_58_1 {B : Nat} {ad : Nat → Nat} {K : xK} {L r : List Value} {σ : xW} : wX8_put B ad K 58 L (.int 1 :: r) σ ↔ wX8_put B ad K 181 L r σ := xr_tab_in (off := 123) dX8_put_58 (by decide) (by decide) (by decide) (by decide)
theorem eX8_put_58_2 {B : Nat} {ad : Nat → Nat} {K : xK} {L r : List Value} {σ : xW} : wX8_put B ad K 58 L (.int 2 :: r) σ ↔ wX8_put B ad K 254 L r σ := xr_tab_in (off := 196) dX8_put_58 (by decide) (by decide) (by decide) (by decide)
theorem eX8_put_58_3 {B : Nat} {ad : Nat → Nat} {K : xK} {L r : List Value} {σ : xW} : wX8_put B ad K 58 L (.int 3 :: r) σ ↔ wX8_put B ad K 315 L r σ := xr_tab_in (off := 257) dX8_put_58 (by decide) (by decide) (by decide) (by decide)
theorem eX8_put_58_4 {B : Nat} {ad : Nat → Nat} {K : xK} {L r : List Value} {σ : xW} : wX8_put B ad K 58 L (.int 4 :: r) σ ↔ wX8_put B ad K 287 L r σ := xr_tab_in (off := 229) dX8_put_58 (by decide) (by decide) (by decide) (by decide)
theorem eX8_put_58_o {B : Nat} {ad : Nat → Nat} {K : xK} {L r : List Value} {σ : xW} {x : Int32} (hc : x.toInt < 0 ∨ 4 < x.toInt) : wX8_put B ad K 58 L (.int x :: r) σ ↔ wX8_put B ad K 315 L r σ := xr_tab_out dX8_put_58 (by decide) hc
theorem eX8_now_49_9 {B : Nat} {ad : Nat → Nat} {K : xK} {L r : List Value} {σ : xW} : wX8_now B ad K 49 L (.int 9 :: r) σ ↔ wX8_now B ad K 84 L r σ := xr_tab_in (off := 35) dX8_now_49 (by decide) (by decide) (by decide) (by decide)
theorem eX8_now_49_10 {B : Nat} {ad : Nat → Nat} {K : xK} {L r : List Value} {σ : xW} : wX8_now B ad K 49 L (.int 10 :: r) σ ↔ wX8_now B ad K 102 L r σ := xr_tab_in (off := 53) dX8_now_49 (by decide) (by decide) (by decide) (by decide)
theorem eX8_now_49_11 {B : Nat} {ad : Nat → Nat} {K : xK} {L r : List Value} {σ : xW} : wX8_now B ad K 49 L (.int 11 :: r) σ ↔ wX8_now B ad K 107 L r σ := xr_tab_in (off := 58) dX8_now_49 (by decide) (by decide) (by decide) (by decide)
theorem eX8_now_49_12 {B : Nat} {ad : Nat → Nat} {K : xK} {L r : List Value} {σ : xW} : wX8_now B ad K 49 L (.int 12 :: r) σ ↔ wX8_now B ad K 113 L r σ := xr_tab_in (off := 64) dX8_now_49 (by decide) (by decide) (by decide) (by decide)
theorem eX8_now_49_13 {B : Nat} {ad : Nat → Nat} {K : xK} {L r : List Value} {σ : xW} : wX8_now B ad K 49 L (.int 13 :: r) σ ↔ wX8_now B ad K 131 L r σ := xr_tab_in (off := 82) dX8_now_49 (by decide) (by decide) (by decide) (by decide)
theorem eX8_now_49_o {B : Nat} {ad : Nat → Nat} {K : xK} {L r : List Value} {σ : xW} {x : Int32} (hc : x.toInt < 9 ∨ 13 < x.toInt) : wX8_now B ad K 49 L (.int x :: r) σ ↔ wX8_now B ad K 147 L r σ := xr_tab_out dX8_now_49 (by decide) hc
theorem ic_0_2 (x : Int32) : (x.toInt < 0 ∨ 2 < x.toInt) ∨ x = 0 ∨ x = 1 ∨ x = 2 := by
  have h : (x.toInt < 0 ∨ 2 < x.toInt) ∨ x.toInt = 0 ∨ x.toInt = 1 ∨ x.toInt = 2 := by omega
  rcases h with h | h | h | h
  · exact Or.inl h
  · exact Or.inr (Or.inl (Int32.toInt_inj.mp (h.trans (by decide))))
  · exact Or.inr (Or.inr (Or.inl (Int32.toInt_inj.mp (h.trans (by decide)))))
  · exact Or.inr (Or.inr (Or.inr (Int32.toInt_inj.mp (h.trans (by decide)))))
theorem ic_0_4 (x : Int32) : (x.toInt < 0 ∨ 4 < x.toInt) ∨ x = 0 ∨ x = 1 ∨ x = 2 ∨ x = 3 ∨ x = 4 := by
  have h : (x.toInt < 0 ∨ 4 < x.toInt) ∨ x.toInt = 0 ∨ x.toInt = 1 ∨ x.toInt = 2 ∨ x.toInt = 3 ∨ x.toInt = 4 := by omega
  rcases h with h | h | h | h | h | h
  · exact Or.inl h
  · exact Or.inr (Or.inl (Int32.toInt_inj.mp (h.trans (by decide))))
  · exact Or.inr (Or.inr (Or.inl (Int32.toInt_inj.mp (h.trans (by decide)))))
  · exact Or.inr (Or.inr (Or.inr (Or.inl (Int32.toInt_inj.mp (h.trans (by decide))))))
  · exact Or.inr (Or.inr (Or.inr (Or.inr (Or.inl (Int32.toInt_inj.mp (h.trans (by decide)))))))
  · exact Or.inr (Or.inr (Or.inr (Or.inr (Or.inr (Int32.toInt_inj.mp (h.trans (by decide)))))))
theorem ic_0_13 (x : Int32) : (x.toInt < 0 ∨ 13 < x.toInt) ∨ x = 0 ∨ x = 1 ∨ x = 2 ∨ x = 3 ∨ x = 4 ∨ x = 5 ∨ x = 6 ∨ x = 7 ∨ x = 8 ∨ x = 9 ∨ x = 10 ∨ x = 11 ∨ x = 12 ∨ x = 13 := by
  have h : (x.toInt < 0 ∨ 13 < x.toInt) ∨ x.toInt = 0 ∨ x.toInt = 1 ∨ x.toInt = 2 ∨ x.toInt = 3 ∨ x.toInt = 4 ∨ x.toInt = 5 ∨ x.toInt = 6 ∨ x.toInt = 7 ∨ x.toInt = 8 ∨ x.toInt = 9 ∨ x.toInt = 10 ∨ x.toInt = 11 ∨ x.toInt = 12 ∨ x.toInt = 13 := by omega
  rcases h with h | h | h | h | h | h | h | h | h | h | h | h | h | h | h
  · exact Or.inl h
  · exact Or.inr (Or.inl (Int32.toInt_inj.mp (h.trans (by decide))))
  · exact Or.inr (Or.inr (Or.inl (Int32.toInt_inj.mp (h.trans (by decide)))))
  · exact Or.inr (Or.inr (Or.inr (Or.inl (Int32.toInt_inj.mp (h.trans (by decide))))))
  · exact Or.inr (Or.inr (Or.inr (Or.inr (Or.inl (Int32.toInt_inj.mp (h.trans (by decide)))))))
  · exact Or.inr (Or.inr (Or.inr (Or.inr (Or.inr (Or.inl (Int32.toInt_inj.mp (h.trans (by decide))))))))
  · exact Or.inr (Or.inr (Or.inr (Or.inr (Or.inr (Or.inr (Or.inl (Int32.toInt_inj.mp (h.trans (by decide)))))))))
  · exact Or.inr (Or.inr (Or.inr (Or.inr (Or.inr (Or.inr (Or.inr (Or.inl (Int32.toInt_inj.mp (h.trans (by decide))))))))))
  · exact Or.inr (Or.inr (Or.inr (Or.inr (Or.inr (Or.inr (Or.inr (Or.inr (Or.inl (Int32.toInt_inj.mp (h.trans (by decide)))))))))))
  · exact Or.inr (Or.inr (Or.inr (Or.inr (Or.inr (Or.inr (Or.inr (Or.inr (Or.inr (Or.inl (Int32.toInt_inj.mp (h.trans (by decide))))))))))))
  · exact Or.inr (Or.inr (Or.inr (Or.inr (Or.inr (Or.inr (Or.inr (Or.inr (Or.inr (Or.inr (Or.inl (Int32.toInt_inj.mp (h.trans (by decide)))))))))))))
  · exact Or.inr (Or.inr (Or.inr (Or.inr (Or.inr (Or.inr (Or.inr (Or.inr (Or.inr (Or.inr (Or.inr (Or.inl (Int32.toInt_inj.mp (h.trans (by decide))))))))))))))
  · exact Or.inr (Or.inr (Or.inr (Or.inr (Or.inr (Or.inr (Or.inr (Or.inr (Or.inr (Or.inr (Or.inr (Or.inr (Or.inl (Int32.toInt_inj.mp (h.trans (by decide)))))))))))))))
  · exact Or.inr (Or.inr (Or.inr (Or.inr (Or.inr (Or.inr (Or.inr (Or.inr (Or.inr (Or.inr (Or.inr (Or.inr (Or.inr (Or.inl (Int32.toInt_inj.mp (h.trans (by decide))))))))))))))))
  · exact Or.inr (Or.inr (Or.inr (Or.inr (Or.inr (Or.inr (Or.inr (Or.inr (Or.inr (Or.inr (Or.inr (Or.inr (Or.inr (Or.inr (Int32.toInt_inj.mp (h.trans (by decide))))))))))))))))
theorem ic_0_14 (x : Int32) : (x.toInt < 0 ∨ 14 < x.toInt) ∨ x = 0 ∨ x = 1 ∨ x = 2 ∨ x = 3 ∨ x = 4 ∨ x = 5 ∨ x = 6 ∨ x = 7 ∨ x = 8 ∨ x = 9 ∨ x = 10 ∨ x = 11 ∨ x = 12 ∨ x = 13 ∨ x = 14 := by
  have h : (x.toInt < 0 ∨ 14 < x.toInt) ∨ x.toInt = 0 ∨ x.toInt = 1 ∨ x.toInt = 2 ∨ x.toInt = 3 ∨ x.toInt = 4 ∨ x.toInt = 5 ∨ x.toInt = 6 ∨ x.toInt = 7 ∨ x.toInt = 8 ∨ x.toInt = 9 ∨ x.toInt = 10 ∨ x.toInt = 11 ∨ x.toInt = 12 ∨ x.toInt = 13 ∨ x.toInt = 14 := by omega
  rcases h with h | h | h | h | h | h | h | h | h | h | h | h | h | h | h | h
  · exact Or.inl h
  · exact Or.inr (Or.inl (Int32.toInt_inj.mp (h.trans (by decide))))
  · exact Or.inr (Or.inr (Or.inl (Int32.toInt_inj.mp (h.trans (by decide)))))
  · exact Or.inr (Or.inr (Or.inr (Or.inl (Int32.toInt_inj.mp (h.trans (by decide))))))
  · exact Or.inr (Or.inr (Or.inr (Or.inr (Or.inl (Int32.toInt_inj.mp (h.trans (by decide)))))))
  · exact Or.inr (Or.inr (Or.inr (Or.inr (Or.inr (Or.inl (Int32.toInt_inj.mp (h.trans (by decide))))))))
  · exact Or.inr (Or.inr (Or.inr (Or.inr (Or.inr (Or.inr (Or.inl (Int32.toInt_inj.mp (h.trans (by decide)))))))))
  · exact Or.inr (Or.inr (Or.inr (Or.inr (Or.inr (Or.inr (Or.inr (Or.inl (Int32.toInt_inj.mp (h.trans (by decide))))))))))
  · exact Or.inr (Or.inr (Or.inr (Or.inr (Or.inr (Or.inr (Or.inr (Or.inr (Or.inl (Int32.toInt_inj.mp (h.trans (by decide)))))))))))
  · exact Or.inr (Or.inr (Or.inr (Or.inr (Or.inr (Or.inr (Or.inr (Or.inr (Or.inr (Or.inl (Int32.toInt_inj.mp (h.trans (by decide))))))))))))
  · exact Or.inr (Or.inr (Or.inr (Or.inr (Or.inr (Or.inr (Or.inr (Or.inr (Or.inr (Or.inr (Or.inl (Int32.toInt_inj.mp (h.trans (by decide)))))))))))))
  · exact Or.inr (Or.inr (Or.inr (Or.inr (Or.inr (Or.inr (Or.inr (Or.inr (Or.inr (Or.inr (Or.inr (Or.inl (Int32.toInt_inj.mp (h.trans (by decide))))))))))))))
  · exact Or.inr (Or.inr (Or.inr (Or.inr (Or.inr (Or.inr (Or.inr (Or.inr (Or.inr (Or.inr (Or.inr (Or.inr (Or.inl (Int32.toInt_inj.mp (h.trans (by decide)))))))))))))))
  · exact Or.inr (Or.inr (Or.inr (Or.inr (Or.inr (Or.inr (Or.inr (Or.inr (Or.inr (Or.inr (Or.inr (Or.inr (Or.inr (Or.inl (Int32.toInt_inj.mp (h.trans (by decide))))))))))))))))
  · exact Or.inr (Or.inr (Or.inr (Or.inr (Or.inr (Or.inr (Or.inr (Or.inr (Or.inr (Or.inr (Or.inr (Or.inr (Or.inr (Or.inr (Or.inl (Int32.toInt_inj.mp (h.trans (by decide)))))))))))))))))
  · exact Or.inr (Or.inr (Or.inr (Or.inr (Or.inr (Or.inr (Or.inr (Or.inr (Or.inr (Or.inr (Or.inr (Or.inr (Or.inr (Or.inr (Or.inr (Int32.toInt_inj.mp (h.trans (by decide)))))))))))))))))
theorem ic_0_16 (x : Int32) : (x.toInt < 0 ∨ 16 < x.toInt) ∨ x = 0 ∨ x = 1 ∨ x = 2 ∨ x = 3 ∨ x = 4 ∨ x = 5 ∨ x = 6 ∨ x = 7 ∨ x = 8 ∨ x = 9 ∨ x = 10 ∨ x = 11 ∨ x = 12 ∨ x = 13 ∨ x = 14 ∨ x = 15 ∨ x = 16 := by
  have h : (x.toInt < 0 ∨ 16 < x.toInt) ∨ x.toInt = 0 ∨ x.toInt = 1 ∨ x.toInt = 2 ∨ x.toInt = 3 ∨ x.toInt = 4 ∨ x.toInt = 5 ∨ x.toInt = 6 ∨ x.toInt = 7 ∨ x.toInt = 8 ∨ x.toInt = 9 ∨ x.toInt = 10 ∨ x.toInt = 11 ∨ x.toInt = 12 ∨ x.toInt = 13 ∨ x.toInt = 14 ∨ x.toInt = 15 ∨ x.toInt = 16 := by omega
  rcases h with h | h | h | h | h | h | h | h | h | h | h | h | h | h | h | h | h | h
  · exact Or.inl h
  · exact Or.inr (Or.inl (Int32.toInt_inj.mp (h.trans (by decide))))
  · exact Or.inr (Or.inr (Or.inl (Int32.toInt_inj.mp (h.trans (by decide)))))
  · exact Or.inr (Or.inr (Or.inr (Or.inl (Int32.toInt_inj.mp (h.trans (by decide))))))
  · exact Or.inr (Or.inr (Or.inr (Or.inr (Or.inl (Int32.toInt_inj.mp (h.trans (by decide)))))))
  · exact Or.inr (Or.inr (Or.inr (Or.inr (Or.inr (Or.inl (Int32.toInt_inj.mp (h.trans (by decide))))))))
  · exact Or.inr (Or.inr (Or.inr (Or.inr (Or.inr (Or.inr (Or.inl (Int32.toInt_inj.mp (h.trans (by decide)))))))))
  · exact Or.inr (Or.inr (Or.inr (Or.inr (Or.inr (Or.inr (Or.inr (Or.inl (Int32.toInt_inj.mp (h.trans (by decide))))))))))
  · exact Or.inr (Or.inr (Or.inr (Or.inr (Or.inr (Or.inr (Or.inr (Or.inr (Or.inl (Int32.toInt_inj.mp (h.trans (by decide)))))))))))
  · exact Or.inr (Or.inr (Or.inr (Or.inr (Or.inr (Or.inr (Or.inr (Or.inr (Or.inr (Or.inl (Int32.toInt_inj.mp (h.trans (by decide))))))))))))
  · exact Or.inr (Or.inr (Or.inr (Or.inr (Or.inr (Or.inr (Or.inr (Or.inr (Or.inr (Or.inr (Or.inl (Int32.toInt_inj.mp (h.trans (by decide)))))))))))))
  · exact Or.inr (Or.inr (Or.inr (Or.inr (Or.inr (Or.inr (Or.inr (Or.inr (Or.inr (Or.inr (Or.inr (Or.inl (Int32.toInt_inj.mp (h.trans (by decide))))))))))))))
  · exact Or.inr (Or.inr (Or.inr (Or.inr (Or.inr (Or.inr (Or.inr (Or.inr (Or.inr (Or.inr (Or.inr (Or.inr (Or.inl (Int32.toInt_inj.mp (h.trans (by decide)))))))))))))))
  · exact Or.inr (Or.inr (Or.inr (Or.inr (Or.inr (Or.inr (Or.inr (Or.inr (Or.inr (Or.inr (Or.inr (Or.inr (Or.inr (Or.inl (Int32.toInt_inj.mp (h.trans (by decide))))))))))))))))
  · exact Or.inr (Or.inr (Or.inr (Or.inr (Or.inr (Or.inr (Or.inr (Or.inr (Or.inr (Or.inr (Or.inr (Or.inr (Or.inr (Or.inr (Or.inl (Int32.toInt_inj.mp (h.trans (by decide)))))))))))))))))
  · exact Or.inr (Or.inr (Or.inr (Or.inr (Or.inr (Or.inr (Or.inr (Or.inr (Or.inr (Or.inr (Or.inr (Or.inr (Or.inr (Or.inr (Or.inr (Or.inl (Int32.toInt_inj.mp (h.trans (by decide))))))))))))))))))
  · exact Or.inr (Or.inr (Or.inr (Or.inr (Or.inr (Or.inr (Or.inr (Or.inr (Or.inr (Or.inr (Or.inr (Or.inr (Or.inr (Or.inr (Or.inr (Or.inr (Or.inl (Int32.toInt_inj.mp (h.trans (by decide)))))))))))))))))))
  · exact Or.inr (Or.inr (Or.inr (Or.inr (Or.inr (Or.inr (Or.inr (Or.inr (Or.inr (Or.inr (Or.inr (Or.inr (Or.inr (Or.inr (Or.inr (Or.inr (Or.inr (Int32.toInt_inj.mp (h.trans (by decide)))))))))))))))))))
theorem ic_1_8 (x : Int32) : (x.toInt < 1 ∨ 8 < x.toInt) ∨ x = 1 ∨ x = 2 ∨ x = 3 ∨ x = 4 ∨ x = 5 ∨ x = 6 ∨ x = 7 ∨ x = 8 := by
  have h : (x.toInt < 1 ∨ 8 < x.toInt) ∨ x.toInt = 1 ∨ x.toInt = 2 ∨ x.toInt = 3 ∨ x.toInt = 4 ∨ x.toInt = 5 ∨ x.toInt = 6 ∨ x.toInt = 7 ∨ x.toInt = 8 := by omega
  rcases h with h | h | h | h | h | h | h | h | h
  · exact Or.inl h
  · exact Or.inr (Or.inl (Int32.toInt_inj.mp (h.trans (by decide))))
  · exact Or.inr (Or.inr (Or.inl (Int32.toInt_inj.mp (h.trans (by decide)))))
  · exact Or.inr (Or.inr (Or.inr (Or.inl (Int32.toInt_inj.mp (h.trans (by decide))))))
  · exact Or.inr (Or.inr (Or.inr (Or.inr (Or.inl (Int32.toInt_inj.mp (h.trans (by decide)))))))
  · exact Or.inr (Or.inr (Or.inr (Or.inr (Or.inr (Or.inl (Int32.toInt_inj.mp (h.trans (by decide))))))))
  · exact Or.inr (Or.inr (Or.inr (Or.inr (Or.inr (Or.inr (Or.inl (Int32.toInt_inj.mp (h.trans (by decide)))))))))
  · exact Or.inr (Or.inr (Or.inr (Or.inr (Or.inr (Or.inr (Or.inr (Or.inl (Int32.toInt_inj.mp (h.trans (by decide))))))))))
  · exact Or.inr (Or.inr (Or.inr (Or.inr (Or.inr (Or.inr (Or.inr (Or.inr (Int32.toInt_inj.mp (h.trans (by decide))))))))))
theorem ic_9_13 (x : Int32) : (x.toInt < 9 ∨ 13 < x.toInt) ∨ x = 9 ∨ x = 10 ∨ x = 11 ∨ x = 12 ∨ x = 13 := by
  have h : (x.toInt < 9 ∨ 13 < x.toInt) ∨ x.toInt = 9 ∨ x.toInt = 10 ∨ x.toInt = 11 ∨ x.toInt = 12 ∨ x.toInt = 13 := by omega
  rcases h with h | h | h | h | h | h
  · exact Or.inl h
  · exact Or.inr (Or.inl (Int32.toInt_inj.mp (h.trans (by decide))))
  · exact Or.inr (Or.inr (Or.inl (Int32.toInt_inj.mp (h.trans (by decide)))))
  · exact Or.inr (Or.inr (Or.inr (Or.inl (Int32.toInt_inj.mp (h.trans (by decide))))))
  · exact Or.inr (Or.inr (Or.inr (Or.inr (Or.inl (Int32.toInt_inj.mp (h.trans (by decide)))))))
  · exact Or.inr (Or.inr (Or.inr (Or.inr (Or.inr (Int32.toInt_inj.mp (h.trans (by decide)))))))
