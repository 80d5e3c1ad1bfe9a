/-! ===== what is fixed, and what the tables say of this class ===== -/
def am_SV (S : SV) : Prop := S.2.2 21 = 10 ∧ S.2.2 = al1 ∧ ∀ c, c < 13 → S.2.1 c = none → ∀ k, k < am_nf c → am_kd (am_ty c k) = 2 → S.1 (100 * (c + 1) + k) = none
theorem am_SVn {S : SV} (h : am_SV S) {c N : Nat} {Cn : String} {T : u_T} {ty : Nat → FieldType} (L : am_CL c Cn T N ty) (hf : ∀ k, k < N → ty k ≠ .float ∧ ty k ≠ .double) : S.2.1 c = none → ∀ k, k < N → (am_kd (ty k) = 2 → S.1 (100 * (c + 1) + k) = none) ∧ ty k ≠ .float ∧ ty k ≠ .double := by
  intro h1 k hk
  refine ⟨fun h2 => ?_, hf k hk⟩
  rw [L.2.2.2.1 k] at h2
  exact h.2.2 c L.1 h1 k (by rw [← L.2.2.1]; exact hk) h2
theorem hin0 : ∀ w ∈ u_ws RX0 TX0 10, w ∈ TB := by
  intro w hw
  obtain ⟨k, hk, rfl⟩ := List.mem_map.mp hw
  match k, List.mem_range.mp hk with
  | 0, _ => exact w711
  | 1, _ => exact w712
  | 2, _ => exact w713
  | 3, _ => exact w714
  | 4, _ => exact w715
  | 5, _ => exact w716
  | 6, _ => exact w717
  | 7, _ => exact w718
  | 8, _ => exact w719
  | 9, _ => exact w720
  | k + 10, h => exact absurd h (by omega)
theorem cl0 : am_CL 0 RX0 TX0 10 tyX0 := ⟨by decide, rfl, rfl, fun _ => rfl, hin0, tyX0_ok, nmX0⟩
theorem fl0 : ∀ k, k < 10 → tyX0 k ≠ .float ∧ tyX0 k ≠ .double := by decide +kernel
theorem hin1 : ∀ w ∈ u_ws RX1 TX1 7, w ∈ TB := by
  intro w hw
  obtain ⟨k, hk, rfl⟩ := List.mem_map.mp hw
  match k, List.mem_range.mp hk with
  | 0, _ => exact w721
  | 1, _ => exact w722
  | 2, _ => exact w723
  | 3, _ => exact w724
  | 4, _ => exact w725
  | 5, _ => exact w726
  | 6, _ => exact w727
  | k + 7, h => exact absurd h (by omega)
theorem cl1 : am_CL 1 RX1 TX1 7 tyX1 := ⟨by decide, rfl, rfl, fun _ => rfl, hin1, tyX1_ok, nmX1⟩
theorem fl1 : ∀ k, k < 7 → tyX1 k ≠ .float ∧ tyX1 k ≠ .double := by decide +kernel
theorem hin2 : ∀ w ∈ u_ws RX2 TX2 6, w ∈ TB := by
  intro w hw
  obtain ⟨k, hk, rfl⟩ := List.mem_map.mp hw
  match k, List.mem_range.mp hk with
  | 0, _ => exact w728
  | 1, _ => exact w729
  | 2, _ => exact w730
  | 3, _ => exact w731
  | 4, _ => exact w732
  | 5, _ => exact w733
  | k + 6, h => exact absurd h (by omega)
theorem cl2 : am_CL 2 RX2 TX2 6 tyX2 := ⟨by decide, rfl, rfl, fun _ => rfl, hin2, tyX2_ok, nmX2⟩
theorem fl2 : ∀ k, k < 6 → tyX2 k ≠ .float ∧ tyX2 k ≠ .double := by decide +kernel
theorem hin3 : ∀ w ∈ u_ws RX3 TX3 4, w ∈ TB := by
  intro w hw
  obtain ⟨k, hk, rfl⟩ := List.mem_map.mp hw
  match k, List.mem_range.mp hk with
  | 0, _ => exact w734
  | 1, _ => exact w735
  | 2, _ => exact w736
  | 3, _ => exact w737
  | k + 4, h => exact absurd h (by omega)
theorem cl3 : am_CL 3 RX3 TX3 4 tyX3 := ⟨by decide, rfl, rfl, fun _ => rfl, hin3, tyX3_ok, nmX3⟩
theorem fl3 : ∀ k, k < 4 → tyX3 k ≠ .float ∧ tyX3 k ≠ .double := by decide +kernel
theorem hin4 : ∀ w ∈ u_ws RX4 TX4 2, w ∈ TB := by
  intro w hw
  obtain ⟨k, hk, rfl⟩ := List.mem_map.mp hw
  match k, List.mem_range.mp hk with
  | 0, _ => exact w738
  | 1, _ => exact w739
  | k + 2, h => exact absurd h (by omega)
theorem cl4 : am_CL 4 RX4 TX4 2 tyX4 := ⟨by decide, rfl, rfl, fun _ => rfl, hin4, tyX4_ok, nmX4⟩
theorem fl4 : ∀ k, k < 2 → tyX4 k ≠ .float ∧ tyX4 k ≠ .double := by decide +kernel
theorem hin5 : ∀ w ∈ u_ws RX5 TX5 12, w ∈ TB := by
  intro w hw
  obtain ⟨k, hk, rfl⟩ := List.mem_map.mp hw
  match k, List.mem_range.mp hk with
  | 0, _ => exact w740
  | 1, _ => exact w741
  | 2, _ => exact w742
  | 3, _ => exact w743
  | 4, _ => exact w744
  | 5, _ => exact w745
  | 6, _ => exact w746
  | 7, _ => exact w747
  | 8, _ => exact w748
  | 9, _ => exact w749
  | 10, _ => exact w750
  | 11, _ => exact w751
  | k + 12, h => exact absurd h (by omega)
theorem cl5 : am_CL 5 RX5 TX5 12 tyX5 := ⟨by decide, rfl, rfl, fun _ => rfl, hin5, tyX5_ok, nmX5⟩
theorem fl5 : ∀ k, k < 12 → tyX5 k ≠ .float ∧ tyX5 k ≠ .double := by decide +kernel
theorem hin6 : ∀ w ∈ u_ws RX6 TX6 4, w ∈ TB := by
  intro w hw
  obtain ⟨k, hk, rfl⟩ := List.mem_map.mp hw
  match k, List.mem_range.mp hk with
  | 0, _ => exact w752
  | 1, _ => exact w753
  | 2, _ => exact w754
  | 3, _ => exact w755
  | k + 4, h => exact absurd h (by omega)
theorem cl6 : am_CL 6 RX6 TX6 4 tyX6 := ⟨by decide, rfl, rfl, fun _ => rfl, hin6, tyX6_ok, nmX6⟩
theorem fl6 : ∀ k, k < 4 → tyX6 k ≠ .float ∧ tyX6 k ≠ .double := by decide +kernel
theorem hin7 : ∀ w ∈ u_ws RX7 TX7 3, w ∈ TB := by
  intro w hw
  obtain ⟨k, hk, rfl⟩ := List.mem_map.mp hw
  match k, List.mem_range.mp hk with
  | 0, _ => exact w756
  | 1, _ => exact w757
  | 2, _ => exact w758
  | k + 3, h => exact absurd h (by omega)
theorem cl7 : am_CL 7 RX7 TX7 3 tyX7 := ⟨by decide, rfl, rfl, fun _ => rfl, hin7, tyX7_ok, nmX7⟩
theorem fl7 : ∀ k, k < 3 → tyX7 k ≠ .float ∧ tyX7 k ≠ .double := by decide +kernel
theorem hin8 : ∀ w ∈ u_ws RX8 TX8 2, w ∈ TB := by
  intro w hw
  obtain ⟨k, hk, rfl⟩ := List.mem_map.mp hw
  match k, List.mem_range.mp hk with
  | 0, _ => exact w759
  | 1, _ => exact w760
  | k + 2, h => exact absurd h (by omega)
theorem cl8 : am_CL 8 RX8 TX8 2 tyX8 := ⟨by decide, rfl, rfl, fun _ => rfl, hin8, tyX8_ok, nmX8⟩
theorem fl8 : ∀ k, k < 2 → tyX8 k ≠ .float ∧ tyX8 k ≠ .double := by decide +kernel
theorem hin9 : ∀ w ∈ u_ws RX9 TX9 16, w ∈ TB := by
  intro w hw
  obtain ⟨k, hk, rfl⟩ := List.mem_map.mp hw
  match k, List.mem_range.mp hk with
  | 0, _ => exact w761
  | 1, _ => exact w762
  | 2, _ => exact w763
  | 3, _ => exact w764
  | 4, _ => exact w765
  | 5, _ => exact w766
  | 6, _ => exact w767
  | 7, _ => exact w768
  | 8, _ => exact w769
  | 9, _ => exact w770
  | 10, _ => exact w771
  | 11, _ => exact w772
  | 12, _ => exact w773
  | 13, _ => exact w774
  | 14, _ => exact w775
  | 15, _ => exact w776
  | k + 16, h => exact absurd h (by omega)
theorem cl9 : am_CL 9 RX9 TX9 16 tyX9 := ⟨by decide, rfl, rfl, fun _ => rfl, hin9, tyX9_ok, nmX9⟩
theorem fl9 : ∀ k, k < 16 → tyX9 k ≠ .float ∧ tyX9 k ≠ .double := by decide +kernel
theorem hin10 : ∀ w ∈ u_ws RX10 TX10 18, w ∈ TB := by
  intro w hw
  obtain ⟨k, hk, rfl⟩ := List.mem_map.mp hw
  match k, List.mem_range.mp hk with
  | 0, _ => exact w777
  | 1, _ => exact w778
  | 2, _ => exact w779
  | 3, _ => exact w780
  | 4, _ => exact w781
  | 5, _ => exact w782
  | 6, _ => exact w783
  | 7, _ => exact w784
  | 8, _ => exact w785
  | 9, _ => exact w786
  | 10, _ => exact w787
  | 11, _ => exact w788
  | 12, _ => exact w789
  | 13, _ => exact w790
  | 14, _ => exact w791
  | 15, _ => exact w792
  | 16, _ => exact w793
  | 17, _ => exact w794
  | k + 18, h => exact absurd h (by omega)
theorem cl10 : am_CL 10 RX10 TX10 18 tyX10 := ⟨by decide, rfl, rfl, fun _ => rfl, hin10, tyX10_ok, nmX10⟩
theorem fl10 : ∀ k, k < 18 → tyX10 k ≠ .float ∧ tyX10 k ≠ .double := by decide +kernel
theorem hin11 : ∀ w ∈ u_ws RX11 TX11 8, w ∈ TB := by
  intro w hw
  obtain ⟨k, hk, rfl⟩ := List.mem_map.mp hw
  match k, List.mem_range.mp hk with
  | 0, _ => exact w795
  | 1, _ => exact w796
  | 2, _ => exact w797
  | 3, _ => exact w798
  | 4, _ => exact w799
  | 5, _ => exact w800
  | 6, _ => exact w801
  | 7, _ => exact w802
  | k + 8, h => exact absurd h (by omega)
theorem cl11 : am_CL 11 RX11 TX11 8 tyX11 := ⟨by decide, rfl, rfl, fun _ => rfl, hin11, tyX11_ok, nmX11⟩
theorem fl11 : ∀ k, k < 8 → tyX11 k ≠ .float ∧ tyX11 k ≠ .double := by decide +kernel
theorem hin12 : ∀ w ∈ u_ws RX12 TX12 67, w ∈ TB := by
  intro w hw
  obtain ⟨k, hk, rfl⟩ := List.mem_map.mp hw
  match k, List.mem_range.mp hk with
  | 0, _ => exact w803
  | 1, _ => exact w804
  | 2, _ => exact w805
  | 3, _ => exact w806
  | 4, _ => exact w807
  | 5, _ => exact w808
  | 6, _ => exact w809
  | 7, _ => exact w810
  | 8, _ => exact w811
  | 9, _ => exact w812
  | 10, _ => exact w813
  | 11, _ => exact w814
  | 12, _ => exact w815
  | 13, _ => exact w816
  | 14, _ => exact w817
  | 15, _ => exact w818
  | 16, _ => exact w819
  | 17, _ => exact w820
  | 18, _ => exact w821
  | 19, _ => exact w822
  | 20, _ => exact w823
  | 21, _ => exact w824
  | 22, _ => exact w825
  | 23, _ => exact w826
  | 24, _ => exact w827
  | 25, _ => exact w828
  | 26, _ => exact w829
  | 27, _ => exact w830
  | 28, _ => exact w831
  | 29, _ => exact w832
  | 30, _ => exact w833
  | 31, _ => exact w834
  | 32, _ => exact w835
  | 33, _ => exact w836
  | 34, _ => exact w837
  | 35, _ => exact w838
  | 36, _ => exact w839
  | 37, _ => exact w840
  | 38, _ => exact w841
  | 39, _ => exact w842
  | 40, _ => exact w843
  | 41, _ => exact w844
  | 42, _ => exact w845
  | 43, _ => exact w846
  | 44, _ => exact w847
  | 45, _ => exact w848
  | 46, _ => exact w849
  | 47, _ => exact w850
  | 48, _ => exact w851
  | 49, _ => exact w852
  | 50, _ => exact w853
  | 51, _ => exact w854
  | 52, _ => exact w855
  | 53, _ => exact w856
  | 54, _ => exact w857
  | 55, _ => exact w858
  | 56, _ => exact w859
  | 57, _ => exact w860
  | 58, _ => exact w861
  | 59, _ => exact w862
  | 60, _ => exact w863
  | 61, _ => exact w864
  | 62, _ => exact w865
  | 63, _ => exact w866
  | 64, _ => exact w867
  | 65, _ => exact w868
  | 66, _ => exact w869
  | k + 67, h => exact absurd h (by omega)
theorem cl12 : am_CL 12 RX12 TX12 67 tyX12 := ⟨by decide, rfl, rfl, fun _ => rfl, hin12, tyX12_ok, nmX12⟩
theorem fl12 : ∀ k, k < 67 → tyX12 k ≠ .float ∧ tyX12 k ≠ .double := by decide +kernel
theorem miX0_init : mi 0 = nX0_init := rfl
theorem cfX0_init : am_CF nX0_init 1 := ⟨w870, w364, by decide +kernel, by decide +kernel, by decide +kernel⟩
theorem miX0_forgetOrder : mi 1 = nX0_forgetOrder := rfl
theorem cfX0_forgetOrder : am_CF nX0_forgetOrder 0 := ⟨w871, w364, by decide +kernel, by decide +kernel, by decide +kernel⟩
theorem miX0_worstByRank : mi 2 = nX0_worstByRank := rfl
theorem cfX0_worstByRank : am_CF nX0_worstByRank 1 := ⟨w872, w364, by decide +kernel, by decide +kernel, by decide +kernel⟩
theorem miX0_putBehindOthersLeft : mi 3 = nX0_putBehindOthersLeft := rfl
theorem cfX0_putBehindOthersLeft : am_CF nX0_putBehindOthersLeft 1 := ⟨w873, w364, by decide +kernel, by decide +kernel, by decide +kernel⟩
theorem miX0_worstBelowHigher : mi 4 = nX0_worstBelowHigher := rfl
theorem cfX0_worstBelowHigher : am_CF nX0_worstBelowHigher 1 := ⟨w874, w364, by decide +kernel, by decide +kernel, by decide +kernel⟩
theorem miX0_weigh : mi 5 = nX0_weigh := rfl
theorem cfX0_weigh : am_CF nX0_weigh 1 := ⟨w875, w364, by decide +kernel, by decide +kernel, by decide +kernel⟩
theorem miX0_leastFrom : mi 6 = nX0_leastFrom := rfl
theorem cfX0_leastFrom : am_CF nX0_leastFrom 3 := ⟨w876, w364, by decide +kernel, by decide +kernel, by decide +kernel⟩
theorem miX0_placesIn : mi 7 = nX0_placesIn := rfl
theorem cfX0_placesIn : am_CF nX0_placesIn 2 := ⟨w877, w364, by decide +kernel, by decide +kernel, by decide +kernel⟩
theorem miX0_faultsIn : mi 8 = nX0_faultsIn := rfl
theorem cfX0_faultsIn : am_CF nX0_faultsIn 1 := ⟨w878, w364, by decide +kernel, by decide +kernel, by decide +kernel⟩
theorem miX0_higherIn : mi 9 = nX0_higherIn := rfl
theorem cfX0_higherIn : am_CF nX0_higherIn 1 := ⟨w879, w364, by decide +kernel, by decide +kernel, by decide +kernel⟩
theorem miX0_seekOrder : mi 10 = nX0_seekOrder := rfl
theorem cfX0_seekOrder : am_CF nX0_seekOrder 0 := ⟨w880, w364, by decide +kernel, by decide +kernel, by decide +kernel⟩
theorem miX0_leastLeftThatFits : mi 11 = nX0_leastLeftThatFits := rfl
theorem cfX0_leastLeftThatFits : am_CF nX0_leastLeftThatFits 0 := ⟨w881, w364, by decide +kernel, by decide +kernel, by decide +kernel⟩
theorem miX0_giveRanks : mi 12 = nX0_giveRanks := rfl
theorem cfX0_giveRanks : am_CF nX0_giveRanks 0 := ⟨w882, w364, by decide +kernel, by decide +kernel, by decide +kernel⟩
theorem miX0_wordAtPlace : mi 13 = nX0_wordAtPlace := rfl
theorem cfX0_wordAtPlace : am_CF nX0_wordAtPlace 1 := ⟨w883, w364, by decide +kernel, by decide +kernel, by decide +kernel⟩
theorem miX0_sortRanks : mi 14 = nX0_sortRanks := rfl
theorem cfX0_sortRanks : am_CF nX0_sortRanks 0 := ⟨w884, w364, by decide +kernel, by decide +kernel, by decide +kernel⟩
theorem miX1_init : mi 15 = nX1_init := rfl
theorem cfX1_init : am_CF nX1_init 0 := ⟨w885, w340, by decide +kernel, by decide +kernel, by decide +kernel⟩
theorem miX1_build : mi 16 = nX1_build := rfl
theorem cfX1_build : am_CF nX1_build 1 := ⟨w886, w340, by decide +kernel, by decide +kernel, by decide +kernel⟩
theorem miX1_addNumber : mi 17 = nX1_addNumber := rfl
theorem cfX1_addNumber : am_CF nX1_addNumber 2 := ⟨w887, w340, by decide +kernel, by decide +kernel, by decide +kernel⟩
theorem miX1_addPlain : mi 18 = nX1_addPlain := rfl
theorem cfX1_addPlain : am_CF nX1_addPlain 1 := ⟨w888, w340, by decide +kernel, by decide +kernel, by decide +kernel⟩
theorem miX1_push : mi 19 = nX1_push := rfl
theorem cfX1_push : am_CF nX1_push 1 := ⟨w889, w340, by decide +kernel, by decide +kernel, by decide +kernel⟩
theorem miX1_bitAt : mi 20 = nX1_bitAt := rfl
theorem cfX1_bitAt : am_CF nX1_bitAt 1 := ⟨w890, w340, by decide +kernel, by decide +kernel, by decide +kernel⟩
theorem miX2_init : mi 21 = nX2_init := rfl
theorem cfX2_init : am_CF nX2_init 0 := ⟨w891, w201, by decide +kernel, by decide +kernel, by decide +kernel⟩
theorem miX2_add : mi 22 = nX2_add := rfl
theorem cfX2_add : am_CF nX2_add 4 := ⟨w892, w201, by decide +kernel, by decide +kernel, by decide +kernel⟩
theorem miX2_hasEntry : mi 23 = nX2_hasEntry := rfl
theorem cfX2_hasEntry : am_CF nX2_hasEntry 1 := ⟨w893, w201, by decide +kernel, by decide +kernel, by decide +kernel⟩
theorem miX2_answer : mi 24 = nX2_answer := rfl
theorem cfX2_answer : am_CF nX2_answer 2 := ⟨w894, w201, by decide +kernel, by decide +kernel, by decide +kernel⟩
theorem miX3_init : mi 25 = nX3_init := rfl
theorem cfX3_init : am_CF nX3_init 1 := ⟨w895, w179, by decide +kernel, by decide +kernel, by decide +kernel⟩
theorem miX3_isOff : mi 26 = nX3_isOff := rfl
theorem cfX3_isOff : am_CF nX3_isOff 0 := ⟨w896, w179, by decide +kernel, by decide +kernel, by decide +kernel⟩
theorem miX3_answer : mi 27 = nX3_answer := rfl
theorem cfX3_answer : am_CF nX3_answer 1 := ⟨w897, w179, by decide +kernel, by decide +kernel, by decide +kernel⟩
theorem miX4_init : mi 28 = nX4_init := rfl
theorem cfX4_init : am_CF nX4_init 0 := ⟨w898, w195, by decide +kernel, by decide +kernel, by decide +kernel⟩
theorem miX4_isTold : mi 29 = nX4_isTold := rfl
theorem cfX4_isTold : am_CF nX4_isTold 1 := ⟨w899, w195, by decide +kernel, by decide +kernel, by decide +kernel⟩
theorem miX4_isFirst : mi 30 = nX4_isFirst := rfl
theorem cfX4_isFirst : am_CF nX4_isFirst 1 := ⟨w900, w195, by decide +kernel, by decide +kernel, by decide +kernel⟩
theorem miX4_add : mi 31 = nX4_add := rfl
theorem cfX4_add : am_CF nX4_add 1 := ⟨w901, w195, by decide +kernel, by decide +kernel, by decide +kernel⟩
theorem miX4_forget : mi 32 = nX4_forget := rfl
theorem cfX4_forget : am_CF nX4_forget 1 := ⟨w902, w195, by decide +kernel, by decide +kernel, by decide +kernel⟩
theorem miX5_init : mi 33 = nX5_init := rfl
theorem cfX5_init : am_CF nX5_init 1 := ⟨w903, w352, by decide +kernel, by decide +kernel, by decide +kernel⟩
theorem miX5_answer : mi 34 = nX5_answer := rfl
theorem cfX5_answer : am_CF nX5_answer 1 := ⟨w904, w352, by decide +kernel, by decide +kernel, by decide +kernel⟩
theorem miX5_readFrom : mi 35 = nX5_readFrom := rfl
theorem cfX5_readFrom : am_CF nX5_readFrom 1 := ⟨w905, w352, by decide +kernel, by decide +kernel, by decide +kernel⟩
theorem miX5_readStart : mi 36 = nX5_readStart := rfl
theorem cfX5_readStart : am_CF nX5_readStart 0 := ⟨w906, w352, by decide +kernel, by decide +kernel, by decide +kernel⟩
theorem miX5_readRank : mi 37 = nX5_readRank := rfl
theorem cfX5_readRank : am_CF nX5_readRank 0 := ⟨w907, w352, by decide +kernel, by decide +kernel, by decide +kernel⟩
theorem miX5_readCount : mi 38 = nX5_readCount := rfl
theorem cfX5_readCount : am_CF nX5_readCount 0 := ⟨w908, w352, by decide +kernel, by decide +kernel, by decide +kernel⟩
theorem miX5_readBytes : mi 39 = nX5_readBytes := rfl
theorem cfX5_readBytes : am_CF nX5_readBytes 0 := ⟨w909, w352, by decide +kernel, by decide +kernel, by decide +kernel⟩
theorem miX5_readSum : mi 40 = nX5_readSum := rfl
theorem cfX5_readSum : am_CF nX5_readSum 0 := ⟨w910, w352, by decide +kernel, by decide +kernel, by decide +kernel⟩
theorem miX5_readTail : mi 41 = nX5_readTail := rfl
theorem cfX5_readTail : am_CF nX5_readTail 0 := ⟨w911, w352, by decide +kernel, by decide +kernel, by decide +kernel⟩
theorem miX5_takeNumber : mi 42 = nX5_takeNumber := rfl
theorem cfX5_takeNumber : am_CF nX5_takeNumber 1 := ⟨w912, w352, by decide +kernel, by decide +kernel, by decide +kernel⟩
theorem miX5_takePlain : mi 43 = nX5_takePlain := rfl
theorem cfX5_takePlain : am_CF nX5_takePlain 0 := ⟨w913, w352, by decide +kernel, by decide +kernel, by decide +kernel⟩
theorem miX5_takeOutStuffed : mi 44 = nX5_takeOutStuffed := rfl
theorem cfX5_takeOutStuffed : am_CF nX5_takeOutStuffed 0 := ⟨w914, w352, by decide +kernel, by decide +kernel, by decide +kernel⟩
theorem miX5_faultHere : mi 45 = nX5_faultHere := rfl
theorem cfX5_faultHere : am_CF nX5_faultHere 1 := ⟨w915, w352, by decide +kernel, by decide +kernel, by decide +kernel⟩
theorem miX5_faultAtLatest : mi 46 = nX5_faultAtLatest := rfl
theorem cfX5_faultAtLatest : am_CF nX5_faultAtLatest 1 := ⟨w916, w352, by decide +kernel, by decide +kernel, by decide +kernel⟩
theorem miX6_init : mi 47 = nX6_init := rfl
theorem cfX6_init : am_CF nX6_init 0 := ⟨w917, w334, by decide +kernel, by decide +kernel, by decide +kernel⟩
theorem miX6_hasNode : mi 48 = nX6_hasNode := rfl
theorem cfX6_hasNode : am_CF nX6_hasNode 1 := ⟨w918, w334, by decide +kernel, by decide +kernel, by decide +kernel⟩
theorem miX6_hasWord : mi 49 = nX6_hasWord := rfl
theorem cfX6_hasWord : am_CF nX6_hasWord 1 := ⟨w919, w334, by decide +kernel, by decide +kernel, by decide +kernel⟩
theorem miX6_addNode : mi 50 = nX6_addNode := rfl
theorem cfX6_addNode : am_CF nX6_addNode 0 := ⟨w920, w334, by decide +kernel, by decide +kernel, by decide +kernel⟩
theorem miX6_addWord : mi 51 = nX6_addWord := rfl
theorem cfX6_addWord : am_CF nX6_addWord 1 := ⟨w921, w334, by decide +kernel, by decide +kernel, by decide +kernel⟩
theorem miX6_holderOf : mi 52 = nX6_holderOf := rfl
theorem cfX6_holderOf : am_CF nX6_holderOf 1 := ⟨w922, w334, by decide +kernel, by decide +kernel, by decide +kernel⟩
theorem miX7_init : mi 53 = nX7_init := rfl
theorem cfX7_init : am_CF nX7_init 0 := ⟨w923, w370, by decide +kernel, by decide +kernel, by decide +kernel⟩
theorem miX7_take : mi 54 = nX7_take := rfl
theorem cfX7_take : am_CF nX7_take 2 := ⟨w924, w370, by decide +kernel, by decide +kernel, by decide +kernel⟩
theorem miX7_hasStretch : mi 55 = nX7_hasStretch := rfl
theorem cfX7_hasStretch : am_CF nX7_hasStretch 2 := ⟨w925, w370, by decide +kernel, by decide +kernel, by decide +kernel⟩
theorem miX8_init : mi 56 = nX8_init := rfl
theorem cfX8_init : am_CF nX8_init 0 := ⟨w926, w346, by decide +kernel, by decide +kernel, by decide +kernel⟩
theorem miX8_hasRoom : mi 57 = nX8_hasRoom := rfl
theorem cfX8_hasRoom : am_CF nX8_hasRoom 1 := ⟨w927, w346, by decide +kernel, by decide +kernel, by decide +kernel⟩
theorem miX8_hasBit : mi 58 = nX8_hasBit := rfl
theorem cfX8_hasBit : am_CF nX8_hasBit 1 := ⟨w928, w346, by decide +kernel, by decide +kernel, by decide +kernel⟩
theorem miX8_append : mi 59 = nX8_append := rfl
theorem cfX8_append : am_CF nX8_append 1 := ⟨w929, w346, by decide +kernel, by decide +kernel, by decide +kernel⟩
theorem miX9_init : mi 60 = nX9_init := rfl
theorem cfX9_init : am_CF nX9_init 2 := ⟨w930, w358, by decide +kernel, by decide +kernel, by decide +kernel⟩
theorem miX9_answer : mi 61 = nX9_answer := rfl
theorem cfX9_answer : am_CF nX9_answer 1 := ⟨w931, w358, by decide +kernel, by decide +kernel, by decide +kernel⟩
theorem miX9_lookAtAllWords : mi 62 = nX9_lookAtAllWords := rfl
theorem cfX9_lookAtAllWords : am_CF nX9_lookAtAllWords 0 := ⟨w932, w358, by decide +kernel, by decide +kernel, by decide +kernel⟩
theorem miX9_passTick : mi 63 = nX9_passTick := rfl
theorem cfX9_passTick : am_CF nX9_passTick 0 := ⟨w933, w358, by decide +kernel, by decide +kernel, by decide +kernel⟩
theorem miX9_wakeNodes : mi 64 = nX9_wakeNodes := rfl
theorem cfX9_wakeNodes : am_CF nX9_wakeNodes 0 := ⟨w934, w358, by decide +kernel, by decide +kernel, by decide +kernel⟩
theorem miX9_letWordsCome : mi 65 = nX9_letWordsCome := rfl
theorem cfX9_letWordsCome : am_CF nX9_letWordsCome 0 := ⟨w935, w358, by decide +kernel, by decide +kernel, by decide +kernel⟩
theorem miX9_letCome : mi 66 = nX9_letCome := rfl
theorem cfX9_letCome : am_CF nX9_letCome 1 := ⟨w936, w358, by decide +kernel, by decide +kernel, by decide +kernel⟩
theorem miX9_startWaiting : mi 67 = nX9_startWaiting := rfl
theorem cfX9_startWaiting : am_CF nX9_startWaiting 2 := ⟨w937, w358, by decide +kernel, by decide +kernel, by decide +kernel⟩
theorem miX9_stopWaiting : mi 68 = nX9_stopWaiting := rfl
theorem cfX9_stopWaiting : am_CF nX9_stopWaiting 1 := ⟨w938, w358, by decide +kernel, by decide +kernel, by decide +kernel⟩
theorem miX9_begin : mi 69 = nX9_begin := rfl
theorem cfX9_begin : am_CF nX9_begin 0 := ⟨w939, w358, by decide +kernel, by decide +kernel, by decide +kernel⟩
theorem miX9_firstThatWaits : mi 70 = nX9_firstThatWaits := rfl
theorem cfX9_firstThatWaits : am_CF nX9_firstThatWaits 0 := ⟨w940, w358, by decide +kernel, by decide +kernel, by decide +kernel⟩
theorem miX9_isAlone : mi 71 = nX9_isAlone := rfl
theorem cfX9_isAlone : am_CF nX9_isAlone 1 := ⟨w941, w358, by decide +kernel, by decide +kernel, by decide +kernel⟩
theorem miX9_fail : mi 72 = nX9_fail := rfl
theorem cfX9_fail : am_CF nX9_fail 1 := ⟨w942, w358, by decide +kernel, by decide +kernel, by decide +kernel⟩
theorem miX9_blame : mi 73 = nX9_blame := rfl
theorem cfX9_blame : am_CF nX9_blame 1 := ⟨w943, w358, by decide +kernel, by decide +kernel, by decide +kernel⟩
theorem miX9_silence : mi 74 = nX9_silence := rfl
theorem cfX9_silence : am_CF nX9_silence 1 := ⟨w944, w358, by decide +kernel, by decide +kernel, by decide +kernel⟩
theorem miX9_hear : mi 75 = nX9_hear := rfl
theorem cfX9_hear : am_CF nX9_hear 1 := ⟨w945, w358, by decide +kernel, by decide +kernel, by decide +kernel⟩
theorem miX10_init : mi 76 = nX10_init := rfl
theorem cfX10_init : am_CF nX10_init 6 := ⟨w946, w401, by decide +kernel, by decide +kernel, by decide +kernel⟩
theorem miX10_leaveOutBefore : mi 77 = nX10_leaveOutBefore := rfl
theorem cfX10_leaveOutBefore : am_CF nX10_leaveOutBefore 1 := ⟨w947, w401, by decide +kernel, by decide +kernel, by decide +kernel⟩
theorem miX10_comesByTimes : mi 78 = nX10_comesByTimes := rfl
theorem cfX10_comesByTimes : am_CF nX10_comesByTimes 0 := ⟨w948, w401, by decide +kernel, by decide +kernel, by decide +kernel⟩
theorem miX10_timeWithoutLate : mi 79 = nX10_timeWithoutLate := rfl
theorem cfX10_timeWithoutLate : am_CF nX10_timeWithoutLate 0 := ⟨w949, w401, by decide +kernel, by decide +kernel, by decide +kernel⟩
theorem miX10_dueTick : mi 80 = nX10_dueTick := rfl
theorem cfX10_dueTick : am_CF nX10_dueTick 0 := ⟨w950, w401, by decide +kernel, by decide +kernel, by decide +kernel⟩
theorem miX10_calledWithinT : mi 81 = nX10_calledWithinT := rfl
theorem cfX10_calledWithinT : am_CF nX10_calledWithinT 1 := ⟨w951, w401, by decide +kernel, by decide +kernel, by decide +kernel⟩
theorem miX10_isAnswerTo : mi 82 = nX10_isAnswerTo := rfl
theorem cfX10_isAnswerTo : am_CF nX10_isAnswerTo 1 := ⟨w952, w401, by decide +kernel, by decide +kernel, by decide +kernel⟩
theorem miX10_goesAheadOf : mi 83 = nX10_goesAheadOf := rfl
theorem cfX10_goesAheadOf : am_CF nX10_goesAheadOf 1 := ⟨w953, w401, by decide +kernel, by decide +kernel, by decide +kernel⟩
theorem miX10_rankKey : mi 84 = nX10_rankKey := rfl
theorem cfX10_rankKey : am_CF nX10_rankKey 0 := ⟨w954, w401, by decide +kernel, by decide +kernel, by decide +kernel⟩
theorem miX10_cost : mi 85 = nX10_cost := rfl
theorem cfX10_cost : am_CF nX10_cost 0 := ⟨w955, w401, by decide +kernel, by decide +kernel, by decide +kernel⟩
theorem miX10_fits : mi 86 = nX10_fits := rfl
theorem cfX10_fits : am_CF nX10_fits 1 := ⟨w956, w401, by decide +kernel, by decide +kernel, by decide +kernel⟩
theorem miX10_answer : mi 87 = nX10_answer := rfl
theorem cfX10_answer : am_CF nX10_answer 1 := ⟨w957, w401, by decide +kernel, by decide +kernel, by decide +kernel⟩
theorem miX11_init : mi 88 = nX11_init := rfl
theorem cfX11_init : am_CF nX11_init 0 := ⟨w958, w959, by decide +kernel, by decide +kernel, by decide +kernel⟩
theorem miX11_node : mi 89 = nX11_node := rfl
theorem cfX11_node : am_CF nX11_node 0 := ⟨w960, w959, by decide +kernel, by decide +kernel, by decide +kernel⟩
theorem miX11_word : mi 90 = nX11_word := rfl
theorem cfX11_word : am_CF nX11_word 5 := ⟨w961, w959, by decide +kernel, by decide +kernel, by decide +kernel⟩
theorem miX11_late : mi 91 = nX11_late := rfl
theorem cfX11_late : am_CF nX11_late 2 := ⟨w962, w959, by decide +kernel, by decide +kernel, by decide +kernel⟩
theorem miX11_due : mi 92 = nX11_due := rfl
theorem cfX11_due : am_CF nX11_due 2 := ⟨w963, w959, by decide +kernel, by decide +kernel, by decide +kernel⟩
theorem miX11_value : mi 93 = nX11_value := rfl
theorem cfX11_value : am_CF nX11_value 2 := ⟨w964, w959, by decide +kernel, by decide +kernel, by decide +kernel⟩
theorem miX11_rank : mi 94 = nX11_rank := rfl
theorem cfX11_rank : am_CF nX11_rank 2 := ⟨w965, w959, by decide +kernel, by decide +kernel, by decide +kernel⟩
theorem miX11_of : mi 95 = nX11_of := rfl
theorem cfX11_of : am_CF nX11_of 2 := ⟨w966, w959, by decide +kernel, by decide +kernel, by decide +kernel⟩
theorem miX11_about : mi 96 = nX11_about := rfl
theorem cfX11_about : am_CF nX11_about 2 := ⟨w967, w959, by decide +kernel, by decide +kernel, by decide +kernel⟩
theorem miX11_size : mi 97 = nX11_size := rfl
theorem cfX11_size : am_CF nX11_size 1 := ⟨w968, w959, by decide +kernel, by decide +kernel, by decide +kernel⟩
theorem miX11_bit : mi 98 = nX11_bit := rfl
theorem cfX11_bit : am_CF nX11_bit 2 := ⟨w969, w959, by decide +kernel, by decide +kernel, by decide +kernel⟩
theorem miX11_sum : mi 99 = nX11_sum := rfl
theorem cfX11_sum : am_CF nX11_sum 1 := ⟨w970, w959, by decide +kernel, by decide +kernel, by decide +kernel⟩
theorem miX11_stuffed : mi 100 = nX11_stuffed := rfl
theorem cfX11_stuffed : am_CF nX11_stuffed 1 := ⟨w971, w959, by decide +kernel, by decide +kernel, by decide +kernel⟩
theorem miX11_ahead : mi 101 = nX11_ahead := rfl
theorem cfX11_ahead : am_CF nX11_ahead 2 := ⟨w972, w959, by decide +kernel, by decide +kernel, by decide +kernel⟩
theorem miX11_feed : mi 102 = nX11_feed := rfl
theorem cfX11_feed : am_CF nX11_feed 2 := ⟨w973, w959, by decide +kernel, by decide +kernel, by decide +kernel⟩
theorem miX11_lay : mi 103 = nX11_lay := rfl
theorem cfX11_lay : am_CF nX11_lay 1 := ⟨w974, w959, by decide +kernel, by decide +kernel, by decide +kernel⟩
theorem miX11_bend : mi 104 = nX11_bend := rfl
theorem cfX11_bend : am_CF nX11_bend 1 := ⟨w975, w959, by decide +kernel, by decide +kernel, by decide +kernel⟩
theorem miX11_wipe : mi 105 = nX11_wipe := rfl
theorem cfX11_wipe : am_CF nX11_wipe 0 := ⟨w976, w959, by decide +kernel, by decide +kernel, by decide +kernel⟩
theorem miX11_read : mi 106 = nX11_read := rfl
theorem cfX11_read : am_CF nX11_read 1 := ⟨w977, w959, by decide +kernel, by decide +kernel, by decide +kernel⟩
theorem miX11_told : mi 107 = nX11_told := rfl
theorem cfX11_told : am_CF nX11_told 1 := ⟨w978, w959, by decide +kernel, by decide +kernel, by decide +kernel⟩
theorem miX11_bytes : mi 108 = nX11_bytes := rfl
theorem cfX11_bytes : am_CF nX11_bytes 0 := ⟨w979, w959, by decide +kernel, by decide +kernel, by decide +kernel⟩
theorem miX11_come : mi 109 = nX11_come := rfl
theorem cfX11_come : am_CF nX11_come 1 := ⟨w980, w959, by decide +kernel, by decide +kernel, by decide +kernel⟩
theorem miX11_disturb : mi 110 = nX11_disturb := rfl
theorem cfX11_disturb : am_CF nX11_disturb 1 := ⟨w981, w959, by decide +kernel, by decide +kernel, by decide +kernel⟩
theorem miX11_run : mi 111 = nX11_run := rfl
theorem cfX11_run : am_CF nX11_run 1 := ⟨w982, w959, by decide +kernel, by decide +kernel, by decide +kernel⟩
theorem miX11_count : mi 112 = nX11_count := rfl
theorem cfX11_count : am_CF nX11_count 1 := ⟨w983, w959, by decide +kernel, by decide +kernel, by decide +kernel⟩
theorem miX11_log : mi 113 = nX11_log := rfl
theorem cfX11_log : am_CF nX11_log 2 := ⟨w984, w959, by decide +kernel, by decide +kernel, by decide +kernel⟩
theorem miX11_every : mi 114 = nX11_every := rfl
theorem cfX11_every : am_CF nX11_every 1 := ⟨w985, w959, by decide +kernel, by decide +kernel, by decide +kernel⟩
theorem miX11_most : mi 115 = nX11_most := rfl
theorem cfX11_most : am_CF nX11_most 1 := ⟨w986, w959, by decide +kernel, by decide +kernel, by decide +kernel⟩
theorem miX11_worst : mi 116 = nX11_worst := rfl
theorem cfX11_worst : am_CF nX11_worst 1 := ⟨w987, w959, by decide +kernel, by decide +kernel, by decide +kernel⟩
theorem miX11_misses : mi 117 = nX11_misses := rfl
theorem cfX11_misses : am_CF nX11_misses 0 := ⟨w988, w959, by decide +kernel, by decide +kernel, by decide +kernel⟩
theorem miX11_load : mi 118 = nX11_load := rfl
theorem cfX11_load : am_CF nX11_load 0 := ⟨w989, w959, by decide +kernel, by decide +kernel, by decide +kernel⟩
theorem miX11_order : mi 119 = nX11_order := rfl
theorem cfX11_order : am_CF nX11_order 0 := ⟨w990, w959, by decide +kernel, by decide +kernel, by decide +kernel⟩
theorem miX11_place : mi 120 = nX11_place := rfl
theorem cfX11_place : am_CF nX11_place 1 := ⟨w991, w959, by decide +kernel, by decide +kernel, by decide +kernel⟩
theorem miX11_give : mi 121 = nX11_give := rfl
theorem cfX11_give : am_CF nX11_give 0 := ⟨w992, w959, by decide +kernel, by decide +kernel, by decide +kernel⟩
theorem miX11_put : mi 122 = nX11_put := rfl
theorem cfX11_put : am_CF nX11_put 1 := ⟨w993, w959, by decide +kernel, by decide +kernel, by decide +kernel⟩
theorem miX11_tear : mi 123 = nX11_tear := rfl
theorem cfX11_tear : am_CF nX11_tear 0 := ⟨w994, w959, by decide +kernel, by decide +kernel, by decide +kernel⟩
theorem miX11_row : mi 124 = nX11_row := rfl
theorem cfX11_row : am_CF nX11_row 1 := ⟨w995, w959, by decide +kernel, by decide +kernel, by decide +kernel⟩
theorem miX11_copy : mi 125 = nX11_copy := rfl
theorem cfX11_copy : am_CF nX11_copy 3 := ⟨w996, w959, by decide +kernel, by decide +kernel, by decide +kernel⟩
theorem miX11_status : mi 126 = nX11_status := rfl
theorem cfX11_status : am_CF nX11_status 1 := ⟨w997, w959, by decide +kernel, by decide +kernel, by decide +kernel⟩
theorem miX11_refuse : mi 127 = nX11_refuse := rfl
theorem cfX11_refuse : am_CF nX11_refuse 1 := ⟨w998, w959, by decide +kernel, by decide +kernel, by decide +kernel⟩
theorem miX11_isWithin : mi 128 = nX11_isWithin := rfl
theorem cfX11_isWithin : am_CF nX11_isWithin 3 := ⟨w999, w959, by decide +kernel, by decide +kernel, by decide +kernel⟩
theorem miX11_isRank : mi 129 = nX11_isRank := rfl
theorem cfX11_isRank : am_CF nX11_isRank 1 := ⟨w1000, w959, by decide +kernel, by decide +kernel, by decide +kernel⟩
theorem miX11_isKind : mi 130 = nX11_isKind := rfl
theorem cfX11_isKind : am_CF nX11_isKind 1 := ⟨w1001, w959, by decide +kernel, by decide +kernel, by decide +kernel⟩
theorem miX11_isAsked : mi 131 = nX11_isAsked := rfl
theorem cfX11_isAsked : am_CF nX11_isAsked 1 := ⟨w1002, w959, by decide +kernel, by decide +kernel, by decide +kernel⟩
theorem miX11_quotient : mi 132 = nX11_quotient := rfl
theorem cfX11_quotient : am_CF nX11_quotient 2 := ⟨w1003, w959, by decide +kernel, by decide +kernel, by decide +kernel⟩
theorem miX11_quotient_ : mi 133 = nX11_quotient_ := rfl
theorem cfX11_quotient_ : am_CF nX11_quotient_ 2 := ⟨w1004, w959, by decide +kernel, by decide +kernel, by decide +kernel⟩
theorem miX11_remainder : mi 134 = nX11_remainder := rfl
theorem cfX11_remainder : am_CF nX11_remainder 2 := ⟨w1005, w959, by decide +kernel, by decide +kernel, by decide +kernel⟩
theorem miX11_sumWith : mi 135 = nX11_sumWith := rfl
theorem cfX11_sumWith : am_CF nX11_sumWith 2 := ⟨w1006, w959, by decide +kernel, by decide +kernel, by decide +kernel⟩
theorem miX12_init : mi 136 = nX12_init := rfl
theorem cfX12_init : am_CF nX12_init 0 := ⟨w1007, w1008, by decide +kernel, by decide +kernel, by decide +kernel⟩
theorem miX12_isIn : mi 137 = nX12_isIn := rfl
theorem cfX12_isIn : am_CF nX12_isIn 3 := ⟨w1009, w1008, by decide +kernel, by decide +kernel, by decide +kernel⟩
theorem miX12_no : mi 138 = nX12_no := rfl
theorem cfX12_no : am_CF nX12_no 1 := ⟨w1010, w1008, by decide +kernel, by decide +kernel, by decide +kernel⟩
theorem miX12_isNode : mi 139 = nX12_isNode := rfl
theorem cfX12_isNode : am_CF nX12_isNode 1 := ⟨w1011, w1008, by decide +kernel, by decide +kernel, by decide +kernel⟩
theorem miX12_isWord : mi 140 = nX12_isWord := rfl
theorem cfX12_isWord : am_CF nX12_isWord 1 := ⟨w1012, w1008, by decide +kernel, by decide +kernel, by decide +kernel⟩
theorem miX12_isRank : mi 141 = nX12_isRank := rfl
theorem cfX12_isRank : am_CF nX12_isRank 1 := ⟨w1013, w1008, by decide +kernel, by decide +kernel, by decide +kernel⟩
theorem miX12_hasRank : mi 142 = nX12_hasRank := rfl
theorem cfX12_hasRank : am_CF nX12_hasRank 1 := ⟨w1014, w1008, by decide +kernel, by decide +kernel, by decide +kernel⟩
theorem miX12_node : mi 143 = nX12_node := rfl
theorem cfX12_node : am_CF nX12_node 0 := ⟨w1015, w1008, by decide +kernel, by decide +kernel, by decide +kernel⟩
theorem miX12_word : mi 144 = nX12_word := rfl
theorem cfX12_word : am_CF nX12_word 5 := ⟨w1016, w1008, by decide +kernel, by decide +kernel, by decide +kernel⟩
theorem miX12_late : mi 145 = nX12_late := rfl
theorem cfX12_late : am_CF nX12_late 2 := ⟨w1017, w1008, by decide +kernel, by decide +kernel, by decide +kernel⟩
theorem miX12_due : mi 146 = nX12_due := rfl
theorem cfX12_due : am_CF nX12_due 2 := ⟨w1018, w1008, by decide +kernel, by decide +kernel, by decide +kernel⟩
theorem miX12_value : mi 147 = nX12_value := rfl
theorem cfX12_value : am_CF nX12_value 2 := ⟨w1019, w1008, by decide +kernel, by decide +kernel, by decide +kernel⟩
theorem miX12_rank : mi 148 = nX12_rank := rfl
theorem cfX12_rank : am_CF nX12_rank 2 := ⟨w1020, w1008, by decide +kernel, by decide +kernel, by decide +kernel⟩
theorem miX12_of : mi 149 = nX12_of := rfl
theorem cfX12_of : am_CF nX12_of 2 := ⟨w1021, w1008, by decide +kernel, by decide +kernel, by decide +kernel⟩
theorem miX12_about : mi 150 = nX12_about := rfl
theorem cfX12_about : am_CF nX12_about 2 := ⟨w1022, w1008, by decide +kernel, by decide +kernel, by decide +kernel⟩
theorem miX12_writes : mi 151 = nX12_writes := rfl
theorem cfX12_writes : am_CF nX12_writes 1 := ⟨w1023, w1008, by decide +kernel, by decide +kernel, by decide +kernel⟩
theorem miX12_summed : mi 152 = nX12_summed := rfl
theorem cfX12_summed : am_CF nX12_summed 2 := ⟨w1024, w1008, by decide +kernel, by decide +kernel, by decide +kernel⟩
theorem miX12_plain : mi 153 = nX12_plain := rfl
theorem cfX12_plain : am_CF nX12_plain 2 := ⟨w1025, w1008, by decide +kernel, by decide +kernel, by decide +kernel⟩
theorem miX12_build : mi 154 = nX12_build := rfl
theorem cfX12_build : am_CF nX12_build 1 := ⟨w1026, w1008, by decide +kernel, by decide +kernel, by decide +kernel⟩
theorem miX12_size : mi 155 = nX12_size := rfl
theorem cfX12_size : am_CF nX12_size 1 := ⟨w1027, w1008, by decide +kernel, by decide +kernel, by decide +kernel⟩
theorem miX12_bit : mi 156 = nX12_bit := rfl
theorem cfX12_bit : am_CF nX12_bit 2 := ⟨w1028, w1008, by decide +kernel, by decide +kernel, by decide +kernel⟩
theorem miX12_sum : mi 157 = nX12_sum := rfl
theorem cfX12_sum : am_CF nX12_sum 1 := ⟨w1029, w1008, by decide +kernel, by decide +kernel, by decide +kernel⟩
theorem miX12_stuffed : mi 158 = nX12_stuffed := rfl
theorem cfX12_stuffed : am_CF nX12_stuffed 1 := ⟨w1030, w1008, by decide +kernel, by decide +kernel, by decide +kernel⟩
theorem miX12_key : mi 159 = nX12_key := rfl
theorem cfX12_key : am_CF nX12_key 1 := ⟨w1031, w1008, by decide +kernel, by decide +kernel, by decide +kernel⟩
theorem miX12_isAhead : mi 160 = nX12_isAhead := rfl
theorem cfX12_isAhead : am_CF nX12_isAhead 2 := ⟨w1032, w1008, by decide +kernel, by decide +kernel, by decide +kernel⟩
theorem miX12_ahead : mi 161 = nX12_ahead := rfl
theorem cfX12_ahead : am_CF nX12_ahead 2 := ⟨w1033, w1008, by decide +kernel, by decide +kernel, by decide +kernel⟩
theorem miX12_feed : mi 162 = nX12_feed := rfl
theorem cfX12_feed : am_CF nX12_feed 2 := ⟨w1034, w1008, by decide +kernel, by decide +kernel, by decide +kernel⟩
theorem miX12_lay : mi 163 = nX12_lay := rfl
theorem cfX12_lay : am_CF nX12_lay 1 := ⟨w1035, w1008, by decide +kernel, by decide +kernel, by decide +kernel⟩
theorem miX12_bend : mi 164 = nX12_bend := rfl
theorem cfX12_bend : am_CF nX12_bend 1 := ⟨w1036, w1008, by decide +kernel, by decide +kernel, by decide +kernel⟩
theorem miX12_wipe : mi 165 = nX12_wipe := rfl
theorem cfX12_wipe : am_CF nX12_wipe 0 := ⟨w1037, w1008, by decide +kernel, by decide +kernel, by decide +kernel⟩
theorem miX12_faults : mi 166 = nX12_faults := rfl
theorem cfX12_faults : am_CF nX12_faults 2 := ⟨w1038, w1008, by decide +kernel, by decide +kernel, by decide +kernel⟩
theorem miX12_skips : mi 167 = nX12_skips := rfl
theorem cfX12_skips : am_CF nX12_skips 0 := ⟨w1039, w1008, by decide +kernel, by decide +kernel, by decide +kernel⟩
theorem miX12_takes : mi 168 = nX12_takes := rfl
theorem cfX12_takes : am_CF nX12_takes 2 := ⟨w1040, w1008, by decide +kernel, by decide +kernel, by decide +kernel⟩
theorem miX12_readsRank : mi 169 = nX12_readsRank := rfl
theorem cfX12_readsRank : am_CF nX12_readsRank 0 := ⟨w1041, w1008, by decide +kernel, by decide +kernel, by decide +kernel⟩
theorem miX12_readsBytes : mi 170 = nX12_readsBytes := rfl
theorem cfX12_readsBytes : am_CF nX12_readsBytes 0 := ⟨w1042, w1008, by decide +kernel, by decide +kernel, by decide +kernel⟩
theorem miX12_readsTail : mi 171 = nX12_readsTail := rfl
theorem cfX12_readsTail : am_CF nX12_readsTail 0 := ⟨w1043, w1008, by decide +kernel, by decide +kernel, by decide +kernel⟩
theorem miX12_read : mi 172 = nX12_read := rfl
theorem cfX12_read : am_CF nX12_read 1 := ⟨w1044, w1008, by decide +kernel, by decide +kernel, by decide +kernel⟩
theorem miX12_told : mi 173 = nX12_told := rfl
theorem cfX12_told : am_CF nX12_told 1 := ⟨w1045, w1008, by decide +kernel, by decide +kernel, by decide +kernel⟩
theorem miX12_bytes : mi 174 = nX12_bytes := rfl
theorem cfX12_bytes : am_CF nX12_bytes 0 := ⟨w1046, w1008, by decide +kernel, by decide +kernel, by decide +kernel⟩
theorem miX12_isOff : mi 175 = nX12_isOff := rfl
theorem cfX12_isOff : am_CF nX12_isOff 1 := ⟨w1047, w1008, by decide +kernel, by decide +kernel, by decide +kernel⟩
theorem miX12_comes : mi 176 = nX12_comes := rfl
theorem cfX12_comes : am_CF nX12_comes 2 := ⟨w1048, w1008, by decide +kernel, by decide +kernel, by decide +kernel⟩
theorem miX12_come : mi 177 = nX12_come := rfl
theorem cfX12_come : am_CF nX12_come 1 := ⟨w1049, w1008, by decide +kernel, by decide +kernel, by decide +kernel⟩
theorem miX12_isDisturbed : mi 178 = nX12_isDisturbed := rfl
theorem cfX12_isDisturbed : am_CF nX12_isDisturbed 1 := ⟨w1050, w1008, by decide +kernel, by decide +kernel, by decide +kernel⟩
theorem miX12_forget : mi 179 = nX12_forget := rfl
theorem cfX12_forget : am_CF nX12_forget 0 := ⟨w1051, w1008, by decide +kernel, by decide +kernel, by decide +kernel⟩
theorem miX12_disturb : mi 180 = nX12_disturb := rfl
theorem cfX12_disturb : am_CF nX12_disturb 1 := ⟨w1052, w1008, by decide +kernel, by decide +kernel, by decide +kernel⟩
theorem miX12_comesByTime : mi 181 = nX12_comesByTime := rfl
theorem cfX12_comesByTime : am_CF nX12_comesByTime 1 := ⟨w1053, w1008, by decide +kernel, by decide +kernel, by decide +kernel⟩
theorem miX12_allCome : mi 182 = nX12_allCome := rfl
theorem cfX12_allCome : am_CF nX12_allCome 0 := ⟨w1054, w1008, by decide +kernel, by decide +kernel, by decide +kernel⟩
theorem miX12_begins : mi 183 = nX12_begins := rfl
theorem cfX12_begins : am_CF nX12_begins 0 := ⟨w1055, w1008, by decide +kernel, by decide +kernel, by decide +kernel⟩
theorem miX12_notes : mi 184 = nX12_notes := rfl
theorem cfX12_notes : am_CF nX12_notes 1 := ⟨w1056, w1008, by decide +kernel, by decide +kernel, by decide +kernel⟩
theorem miX12_fails : mi 185 = nX12_fails := rfl
theorem cfX12_fails : am_CF nX12_fails 0 := ⟨w1057, w1008, by decide +kernel, by decide +kernel, by decide +kernel⟩
theorem miX12_silences : mi 186 = nX12_silences := rfl
theorem cfX12_silences : am_CF nX12_silences 1 := ⟨w1058, w1008, by decide +kernel, by decide +kernel, by decide +kernel⟩
theorem miX12_isHeard : mi 187 = nX12_isHeard := rfl
theorem cfX12_isHeard : am_CF nX12_isHeard 0 := ⟨w1059, w1008, by decide +kernel, by decide +kernel, by decide +kernel⟩
theorem miX12_goes : mi 188 = nX12_goes := rfl
theorem cfX12_goes : am_CF nX12_goes 0 := ⟨w1060, w1008, by decide +kernel, by decide +kernel, by decide +kernel⟩
theorem miX12_run : mi 189 = nX12_run := rfl
theorem cfX12_run : am_CF nX12_run 1 := ⟨w1061, w1008, by decide +kernel, by decide +kernel, by decide +kernel⟩
theorem miX12_count : mi 190 = nX12_count := rfl
theorem cfX12_count : am_CF nX12_count 1 := ⟨w1062, w1008, by decide +kernel, by decide +kernel, by decide +kernel⟩
theorem miX12_log : mi 191 = nX12_log := rfl
theorem cfX12_log : am_CF nX12_log 2 := ⟨w1063, w1008, by decide +kernel, by decide +kernel, by decide +kernel⟩
theorem miX12_every : mi 192 = nX12_every := rfl
theorem cfX12_every : am_CF nX12_every 1 := ⟨w1064, w1008, by decide +kernel, by decide +kernel, by decide +kernel⟩
theorem miX12_mostOf : mi 193 = nX12_mostOf := rfl
theorem cfX12_mostOf : am_CF nX12_mostOf 1 := ⟨w1065, w1008, by decide +kernel, by decide +kernel, by decide +kernel⟩
theorem miX12_most : mi 194 = nX12_most := rfl
theorem cfX12_most : am_CF nX12_most 1 := ⟨w1066, w1008, by decide +kernel, by decide +kernel, by decide +kernel⟩
theorem miX12_blocked : mi 195 = nX12_blocked := rfl
theorem cfX12_blocked : am_CF nX12_blocked 1 := ⟨w1067, w1008, by decide +kernel, by decide +kernel, by decide +kernel⟩
theorem miX12_faulty : mi 196 = nX12_faulty := rfl
theorem cfX12_faulty : am_CF nX12_faulty 2 := ⟨w1068, w1008, by decide +kernel, by decide +kernel, by decide +kernel⟩
theorem miX12_busy : mi 197 = nX12_busy := rfl
theorem cfX12_busy : am_CF nX12_busy 1 := ⟨w1069, w1008, by decide +kernel, by decide +kernel, by decide +kernel⟩
theorem miX12_waitOf : mi 198 = nX12_waitOf := rfl
theorem cfX12_waitOf : am_CF nX12_waitOf 2 := ⟨w1070, w1008, by decide +kernel, by decide +kernel, by decide +kernel⟩
theorem miX12_worstOf : mi 199 = nX12_worstOf := rfl
theorem cfX12_worstOf : am_CF nX12_worstOf 1 := ⟨w1071, w1008, by decide +kernel, by decide +kernel, by decide +kernel⟩
theorem miX12_looksAt : mi 200 = nX12_looksAt := rfl
theorem cfX12_looksAt : am_CF nX12_looksAt 1 := ⟨w1072, w1008, by decide +kernel, by decide +kernel, by decide +kernel⟩
theorem miX12_fits : mi 201 = nX12_fits := rfl
theorem cfX12_fits : am_CF nX12_fits 1 := ⟨w1073, w1008, by decide +kernel, by decide +kernel, by decide +kernel⟩
theorem miX12_worst : mi 202 = nX12_worst := rfl
theorem cfX12_worst : am_CF nX12_worst 1 := ⟨w1074, w1008, by decide +kernel, by decide +kernel, by decide +kernel⟩
theorem miX12_misses : mi 203 = nX12_misses := rfl
theorem cfX12_misses : am_CF nX12_misses 0 := ⟨w1075, w1008, by decide +kernel, by decide +kernel, by decide +kernel⟩
theorem miX12_load : mi 204 = nX12_load := rfl
theorem cfX12_load : am_CF nX12_load 0 := ⟨w1076, w1008, by decide +kernel, by decide +kernel, by decide +kernel⟩
theorem miX12_order : mi 205 = nX12_order := rfl
theorem cfX12_order : am_CF nX12_order 0 := ⟨w1077, w1008, by decide +kernel, by decide +kernel, by decide +kernel⟩
theorem miX12_place : mi 206 = nX12_place := rfl
theorem cfX12_place : am_CF nX12_place 1 := ⟨w1078, w1008, by decide +kernel, by decide +kernel, by decide +kernel⟩
theorem miX12_give : mi 207 = nX12_give := rfl
theorem cfX12_give : am_CF nX12_give 0 := ⟨w1079, w1008, by decide +kernel, by decide +kernel, by decide +kernel⟩
theorem miX12_put : mi 208 = nX12_put := rfl
theorem cfX12_put : am_CF nX12_put 1 := ⟨w1080, w1008, by decide +kernel, by decide +kernel, by decide +kernel⟩
theorem miX12_tear : mi 209 = nX12_tear := rfl
theorem cfX12_tear : am_CF nX12_tear 0 := ⟨w1081, w1008, by decide +kernel, by decide +kernel, by decide +kernel⟩
theorem miX12_row : mi 210 = nX12_row := rfl
theorem cfX12_row : am_CF nX12_row 1 := ⟨w1082, w1008, by decide +kernel, by decide +kernel, by decide +kernel⟩
theorem miX12_copy : mi 211 = nX12_copy := rfl
theorem cfX12_copy : am_CF nX12_copy 3 := ⟨w1083, w1008, by decide +kernel, by decide +kernel, by decide +kernel⟩
theorem miX12_status : mi 212 = nX12_status := rfl
theorem cfX12_status : am_CF nX12_status 1 := ⟨w1084, w1008, by decide +kernel, by decide +kernel, by decide +kernel⟩
