section T1
variable {G : Gx} {sc : Nat → Nat → Prop} {n : Nat} {S : Nat → Nat × Nat} {M : Nat → Nat → Int32} {L : Nat → Nat → Int64} {P : Nat → Nat → Option Nat}

set_option maxHeartbeats 4000000 in
set_option maxRecDepth 100000 in
theorem k_tire {a : Nat} {x : Int32} (ha : (S a).1 = 7) (hsc : ¬ sc a 1) : KK G sc yX6_tire cX6_tire 2 none 0 0 0 [.ref a, .int x] (n, S, M, L, P) ((ansV (n, S, up2 M a 1 (if 0 < M a 1 - x then M a 1 - x else 0), L, P))) := by
  refine KK_of2 [(0, .ref a), (1, .int x)] (by decide +kernel) (Nat.le_of_ble_eq_true rfl) rfl ?_
  refine JJ_aload_n dX6_tire_0 rfl rfl ?_
  refine JJ_iconst (v := 0) dX6_tire_1 rfl ?_
  refine JJ_aload_n dX6_tire_2 rfl rfl ?_
  refine JJ_geti (v := M a 1) (cis := [6]) (k := 1) fa_X6_15 (by decide) ha rfl hsc rfl dX6_tire_3 ?_
  refine JJ_iload_n dX6_tire_6 rfl rfl ?_
  refine JJ_isub dX6_tire_7 ?_
  refine JJ_max lk_X6_24 tb_637 tb_83 tb_638 (Nat.le_of_ble_eq_true rfl) dX6_tire_8 ?_
  refine JJ_puti (cis := [6]) (k := 1) fa_X6_15 (by decide) ha rfl (fun r hr => by cases hr; exact ⟨rfl, by decide +kernel⟩) dX6_tire_11 (fun M1 hM2 => ?_)
  refine JJ_vret dX6_tire_14 rfl ?_
  exact ⟨rfl, by rw [hM2]⟩
set_option maxHeartbeats 4000000 in
set_option maxRecDepth 100000 in
theorem k_rwithin {v lo hi : Int32} : KK G sc yX12_within cX12_within 3 ((some .int)) 0 0 0 [.int v, .int lo, .int hi] (n, S, M, L, P) ((ansI (if lo ≤ v then if v ≤ hi then v else hi else lo) (n, S, M, L, P))) := by
  refine KK_of2 [(0, .int v), (1, .int lo), (2, .int hi)] (by decide +kernel) (Nat.le_of_ble_eq_true rfl) rfl ?_
  refine JJ_iload_n dX12_within_0 rfl rfl ?_
  refine JJ_iload_n dX12_within_1 rfl rfl ?_
  refine JJ_icmp_ge (tgt := 9) dX12_within_2 (by decide) (fun c1 => ?_) (fun c1 => ?_)
  · skip
    refine JJ_iload_n dX12_within_9 rfl rfl ?_
    refine JJ_iload_n dX12_within_10 rfl rfl ?_
    refine JJ_icmp_le (tgt := 18) dX12_within_11 (by decide) (fun c2 => ?_) (fun c2 => ?_)
    · skip
      refine JJ_iload_n dX12_within_18 rfl rfl ?_
      refine JJ_cret dX12_within_19 rfl (by assumption) ?_
      exact ⟨by simp [*], rfl⟩
    · skip
      refine JJ_iload_n dX12_within_14 rfl rfl ?_
      refine JJ_goto (tgt := 19) dX12_within_15 (by decide) ?_
      refine JJ_cret dX12_within_19 rfl (by assumption) ?_
      exact ⟨by simp [*], rfl⟩
  · skip
    refine JJ_iload_n dX12_within_5 rfl rfl ?_
    refine JJ_goto (tgt := 19) dX12_within_6 (by decide) ?_
    refine JJ_cret dX12_within_19 rfl (by assumption) ?_
    exact ⟨by simp [*], rfl⟩
end T1
