section C27
variable {G : Gx} {sc : Nat → Nat → Prop} {n : Nat} {S : Nat → Nat × Nat} {M : Nat → Nat → Int32} {L : Nat → Nat → Int64} {P : Nat → Nat → Option Nat} {x : Nat} {A B : Abs}

/-- the first of the rows, f having been it before -/
def fr (f : Int32) (l : List Int32) : Int32 := if f = -1 then l.headD (-1) else f
theorem fr_nil {f : Int32} : fr f [] = f := by
  unfold fr
  split
  · rename_i h; exact h.symm
  · rfl
theorem fr_app {f : Int32} {l1 l2 : List Int32} (h : ∀ e, e ∈ l1 → ¬ e = -1) : fr f (l1 ++ l2) = fr (fr f l1) l2 := by
  by_cases hf : f = -1
  · cases l1 with
    | nil => rw [fr_nil]; rfl
    | cons a l =>
      have ha : ¬ a = -1 := h a (List.mem_cons_self ..)
      unfold fr
      rw [if_pos hf, if_pos hf]
      show a = if a = -1 then _ else a
      rw [if_neg ha]
  · unfold fr
    rw [if_neg hf, if_neg hf, if_neg hf]
theorem zfl_mem {f : Nat → List Int32} {e : Int32} : ∀ d k, e ∈ zfl f d k → ∃ j, k ≤ j ∧ j < k + d ∧ e ∈ f j := by
  intro d
  induction d with
  | zero => intro k h; cases h
  | succ d ih =>
    intro k h
    rcases List.mem_append.mp (show e ∈ f k ++ zfl f d (k + 1) from h) with h | h
    · exact ⟨k, by omega, by omega, h⟩
    · obtain ⟨j, a, b, c⟩ := ih (k + 1) h
      exact ⟨j, by omega, by omega, c⟩
theorem zfl_len {f : Nat → List Int32} {b : Nat} : ∀ d k, (∀ j, (f j).length ≤ b) → (zfl f d k).length ≤ d * b := by
  intro d
  induction d with
  | zero => intro k _; exact Nat.zero_le _
  | succ d ih =>
    intro k h
    show (f k ++ zfl f d (k + 1)).length ≤ (d + 1) * b
    rw [List.length_append, Nat.succ_mul]
    have h1 := h k
    have h2 := ih (k + 1) h
    omega
theorem dg_e {D i : Nat} : 10 * nI D + nI i + 1 = nI (D * 10 + i + 1) := by
  rw [Nat.mul_comm, ← nI_add, ← nI_add, ← pk_mul]
  rfl
theorem nI_ne1 {D : Nat} (h : D < 100000) : ¬ nI D = -1 := fun y => by
  rw [i_eq, nI_toInt (by omega), show (-1 : Int32).toInt = -1 from rfl] at y
  omega
theorem zgo_ne {s : Nat} : ∀ (d t D : Nat) (A : Abs), t + d ≤ 4 → D < 10 ^ t → zcnt A ≤ 6 → ∀ e, e ∈ zgo s d A t (nI D) → ¬ e = -1 := by
  intro d
  induction d with
  | zero =>
    intro t D A ht hD _ e he
    rw [List.mem_singleton.mp (show e ∈ [nI D] from he)]
    have : (10 : Nat) ^ t ≤ 10 ^ 4 := Nat.pow_le_pow_right (by decide) (by omega)
    exact nI_ne1 (by omega)
  | succ d ih =>
    intro t D A ht hD hz e he
    rw [zgo_s] at he
    obtain ⟨j, -, hj, hf⟩ := zfl_mem _ _ he
    by_cases hc : s_comes (A.1 5 j) (A.1 7 j) (A.1 0 (t % 2)) = A.1 (20 + s) t ∧ (¬ zw A j (t % 2) ∨ d = 0)
    · rw [zgf_1 hc, dg_e] at hf
      exact ih (t + 1) _ _ (by omega) (by rw [Nat.pow_succ]; omega) (by rw [zPut_zcnt]; exact hz) e hf
    · rw [zgf_0 hc] at hf
      cases hf
theorem zgo_len {s : Nat} : ∀ (d t : Nat) (dg : Int32) (A : Abs), zcnt A ≤ 6 → (zgo s d A t dg).length ≤ 6 ^ d := by
  intro d
  induction d with
  | zero => intro t dg A _; exact Nat.le_refl _
  | succ d ih =>
    intro t dg A hz
    rw [zgo_s]
    refine Nat.le_trans (zfl_len (b := 6 ^ d) _ _ fun j => ?_) (by rw [Nat.pow_succ, Nat.mul_comm]; exact Nat.mul_le_mul_left _ hz)
    by_cases hc : s_comes (A.1 5 j) (A.1 7 j) (A.1 0 (t % 2)) = A.1 (20 + s) t ∧ (¬ zw A j (t % 2) ∨ d = 0)
    · rw [zgf_1 hc]
      exact ih _ _ _ (by rw [zPut_zcnt]; exact hz)
    · rw [zgf_0 hc]
      exact Nat.zero_le _
theorem fz1 : ∀ (l : List Int32) (r : Nat) (f : Int32), 0 < r → r + l.length < 1000000 → l.foldl zst (nI r, f) = (nI (r + l.length), f) := by
  intro l
  induction l with
  | nil => intro r f _ _; rfl
  | cons a l ih =>
    intro r f hr hl
    rw [List.length_cons] at hl ⊢
    have e : zst (nI r, f) a = (nI (r + 1), f) := by
      unfold zst
      rw [show (nI r, f).1 + 1 = nI (r + 1) from nI_add r 1, if_neg (fun y => by have := nI_inj (a := r + 1) (b := 1) (by omega) (by omega) y; omega)]
    rw [List.foldl_cons, e, ih (r + 1) f (by omega) (by omega), show r + 1 + l.length = r + (l.length + 1) by omega]
theorem fz0 {l : List Int32} (h : l.length < 100000) : l.foldl zst (0, -1) = (nI l.length, l.headD (-1)) := by
  cases l with
  | nil => rfl
  | cons a l =>
    rw [List.length_cons] at h ⊢
    have e : zst (0, -1) a = (nI 1, a) := by
      unfold zst
      rw [if_pos (by decide)]
      rfl
    rw [List.foldl_cons, e, fz1 l 1 a (by decide) (by omega), Nat.add_comm]
    rfl
/-- what the rows change -/
def RoD (x t b k : Nat) : Prop := (x + 49 + 3 * t ≤ b ∧ b < x + 67) ∨ (b = x ∧ k = 18)
def RoP (x t b k : Nat) : Prop := (x + 49 + 3 * t ≤ b ∧ b < x + 67) ∧ k = 3
theorem RoD.up {t b k : Nat} (h : RoD x (t + 1) b k) : RoD x t b k := by unfold RoD at *; omega
theorem RoP.up {t b k : Nat} (h : RoP x (t + 1) b k) : RoP x t b k := by unfold RoP at *; omega
/-- the rows from a court that is B's -/
def RB (G : Gx) (sc : Nat → Nat → Prop) (n : Nat) (S : Nat → Nat × Nat) (x s N d : Nat) : Prop := ∀ (t c D : Nat) (B : Abs) (M : Nat → Nat → Int32) (L : Nat → Nat → Int64) (P : Nat → Nat → Option Nat), t + d = N → D < 10 ^ t → CTA x c P M B → c < x + 49 + 3 * t → TXS x M B → STS x n S P M B → RN3 B → M (x + 67 + 2 * s) 2 = nI N → (∀ j, j < N → M (x + 67 + 2 * s + 1) j = B.1 (20 + s) j) → CWF x S P →
  KK G sc yX11_rowsBy cX11_rowsBy 11 (some .int) (9 + d) 0 0 [.ref x, .ref c, .ref (x + 67 + 2 * s), .int (nI t), .int (nI D)] (n, S, M, L, P) (fun v μ => v = some (.int (nI (zgo s d B t (nI D)).length)) ∧ ∃ M' L' P', μ = (n, S, M', L', P') ∧ M' x 18 = fr (M x 18) (zgo s d B t (nI D)) ∧ (∀ b k, ¬ RoD x t b k → M' b k = M b k) ∧ ∀ b k, ¬ RoP x t b k → P' b k = P b k)
set_option maxHeartbeats 4000000 in
set_option maxRecDepth 100000 in
theorem kc_rowsBy {s N : Nat} (hs : s < 4) (hN : N ≤ 4) (hX : HSC x sc) : ∀ d, RB G sc n S x s N d := by
  intro d
  induction d with
  | zero =>
    intro t c D B M L P htd hD hct hc ht hst hg3 hMN hMI hC
    refine KK_of2 [(0, .ref x), (1, .ref c), (2, .ref (x + 67 + 2 * s)), (3, .int (nI t)), (4, .int (nI D))] (by decide +kernel) (Nat.le_of_ble_eq_true rfl) rfl ?_
    refine JJ_iload_n dX11_rowsBy_0 rfl rfl ?_
    refine JJ_aload_n dX11_rowsBy_1 rfl rfl ?_
    refine JJ_geti (v := nI N) (cis := [7]) (k := 2) fa_X11_225 (by decide) (congrArg Prod.fst (hC.2.2.2.2 s hs).1) rfl (hX.1 _ _ (by omega) (by omega) (by omega)) hMN dX11_rowsBy_2 ?_
    refine JJ_icmp_ge (tgt := 17) dX11_rowsBy_5 (by decide) (fun _ => ?_) (fun c1 => absurd (nI_le (by omega) (by omega)) c1)
    refine JJ_aload_n dX11_rowsBy_17 rfl rfl ?_
    refine JJ_geti (v := M x 18) (cis := [11]) (k := 18) fa_X11_75 (by decide) (congrArg Prod.fst (hC.sh (t := 0) (k := 12) (m := 0) (by decide))) rfl (hX.1 _ _ (by omega) (by omega) (by omega)) rfl dX11_rowsBy_18 ?_
    refine JJ_iconst (v := (-1)) dX11_rowsBy_21 rfl ?_
    refine JJ_icmp_ne (tgt := 31) dX11_rowsBy_22 (by decide) (fun c2 => ?_) (fun c2 => ?_)
    · skip
      refine JJ_iconst (v := 1) dX11_rowsBy_31 rfl ?_
      refine JJ_iret dX11_rowsBy_32 rfl ?_
      exact ⟨rfl, M, L, P, rfl, (show M x 18 = fr (M x 18) [nI D] from (if_neg c2).symm), fun _ _ _ => rfl, fun _ _ _ => rfl⟩
    · skip
      refine JJ_aload_n dX11_rowsBy_25 rfl rfl ?_
      refine JJ_iload dX11_rowsBy_26 rfl ?_
      refine JJ_puti (cis := [11]) (k := 18) fa_X11_75 (by decide) (congrArg Prod.fst (hC.sh (t := 0) (k := 12) (m := 0) (by decide))) rfl (fun r hr => by cases hr; exact ⟨rfl, by decide +kernel⟩) dX11_rowsBy_28 (fun M3 hM4 => ?_)
      refine JJ_iconst (v := 1) dX11_rowsBy_31 rfl ?_
      refine JJ_iret dX11_rowsBy_32 rfl ?_
      exact ⟨rfl, M3, L, P, rfl, (rd_s hM4).trans (show nI D = fr (M x 18) [nI D] from (if_pos c2).symm), fun b k z => rd_n hM4 (fun y => z (by unfold RoD; omega)) rfl, fun _ _ _ => rfl⟩
  | succ d ih =>
    intro t c D B M L P htd hD hct hc ht hst hg3 hMN hMI hC
    have hg := hg3.1
    obtain ⟨cn, hc6, hcA, hcZ⟩ := cnt_e hg
    have h6 := (rul_lt hg).2
    have hat := hct.1.at
    have hp : t % 2 < 2 := by omega
    have hC0 : CRT0 x (x + 49 + 3 * t) := ⟨3 + t, by omega, by omega⟩
    have hca : c + 2 < x + 49 + 3 * t := by obtain ⟨j, hj, e⟩ := hct.1; omega
    have hcx : x + 40 ≤ c := by obtain ⟨j, hj, e⟩ := hct.1; omega
    rw [show zgo s (d + 1) B t (nI D) = zfl (zgf s d B t (nI D)) cn 0 by rw [zgo_s, hcZ]]
    rcases Nat.eq_zero_or_pos d with hd0 | hd0
    · skip
      refine KK_of2 [(0, .ref x), (1, .ref c), (2, .ref (x + 67 + 2 * s)), (3, .int (nI t)), (4, .int (nI D))] (by decide +kernel) (Nat.le_of_ble_eq_true rfl) rfl ?_
      refine JJ_iload_n dX11_rowsBy_0 rfl rfl ?_
      refine JJ_aload_n dX11_rowsBy_1 rfl rfl ?_
      refine JJ_geti (v := nI N) (cis := [7]) (k := 2) fa_X11_225 (by decide) (congrArg Prod.fst (hC.2.2.2.2 s hs).1) rfl (hX.1 _ _ (by omega) (by omega) (by omega)) hMN dX11_rowsBy_2 ?_
      refine JJ_icmp_ge (tgt := 17) dX11_rowsBy_5 (by decide) (fun c5 => absurd c5 (nI_ge (by omega) (by omega))) (fun _ => ?_)
      refine JJ_iload_n dX11_rowsBy_8 rfl rfl ?_
      refine JJ_aload_n dX11_rowsBy_9 rfl rfl ?_
      refine JJ_getr (q := x + 5) (cis := [11]) (k := 7) fa_X11_37 (by decide) (congrArg Prod.fst (hC.sh (t := 0) (k := 12) (m := 0) (by decide))) rfl (hC.rf (t := 0) (s := 7) (u := 5) (by decide)) dX11_rowsBy_10 ?_
      refine JJ_alen (t := 4) (hC.sh (t := 5) (k := 24) (m := 6) (by decide)) (by decide) dX11_rowsBy_13 ?_
      refine JJ_icmp_lt (tgt := 33) dX11_rowsBy_14 (by decide) (fun _ => ?_) (fun c6 => absurd (nI_lt1 (m := 6) (by omega) (by omega)) c6)
      refine JJ_iload_n dX11_rowsBy_33 rfl rfl ?_
      refine JJ_iconst (v := 2) dX11_rowsBy_34 rfl ?_
      refine JJ_irem dX11_rowsBy_35 (by decide) ?_
      refine JJ_eqi (x2 := nI (t % 2)) (pk_rem (a := t) (d := 2) (by omega) (by decide) (by decide)) ?_
      refine JJ_istore (lv' := [(5, .int (nI (t % 2))), (0, .ref x), (1, .ref c), (2, .ref (x + 67 + 2 * s)), (3, .int (nI t)), (4, .int (nI D))]) dX11_rowsBy_36 (by decide) rfl ?_
      refine JJ_iload_n dX11_rowsBy_38 rfl rfl ?_
      refine JJ_aload_n dX11_rowsBy_39 rfl rfl ?_
      refine JJ_geti (v := nI N) (cis := [7]) (k := 2) fa_X11_225 (by decide) (congrArg Prod.fst (hC.2.2.2.2 s hs).1) rfl (hX.1 _ _ (by omega) (by omega) (by omega)) hMN dX11_rowsBy_40 ?_
      refine JJ_iconst (v := 1) dX11_rowsBy_43 rfl ?_
      refine JJ_isub dX11_rowsBy_44 ?_
      refine JJ_eqi (x2 := nI (N - 1)) (pk_sub (a := N) (b := 1) (by omega)) ?_
      refine JJ_icmp_ne (tgt := 52) dX11_rowsBy_45 (by decide) (fun c7 => absurd (congrArg nI (by omega)) c7) (fun _ => ?_)
      refine JJ_iconst (v := 1) dX11_rowsBy_48 rfl ?_
      refine JJ_goto (tgt := 53) dX11_rowsBy_49 (by decide) ?_
      refine JJ_istore (lv' := [(6, .int 1), (5, .int (nI (t % 2))), (0, .ref x), (1, .ref c), (2, .ref (x + 67 + 2 * s)), (3, .int (nI t)), (4, .int (nI D))]) dX11_rowsBy_53 (by decide) rfl ?_
      refine JJ_aload_n dX11_rowsBy_55 rfl rfl ?_
      refine JJ_getr (q := x + 5) (cis := [11]) (k := 7) fa_X11_37 (by decide) (congrArg Prod.fst (hC.sh (t := 0) (k := 12) (m := 0) (by decide))) rfl (hC.rf (t := 0) (s := 7) (u := 5) (by decide)) dX11_rowsBy_56 ?_
      refine JJ_iload_n dX11_rowsBy_59 rfl rfl ?_
      refine JJ_aaldX (t := 2) (q := x + 49 + 3 * t) (hC.sh (t := 5) (k := 24) (m := 6) (by decide)) (by decide) (IX_nI (by omega) (by omega)) (hC.ahd (by omega)) dX11_rowsBy_60 ?_
      refine JJ_astore (lv' := [(7, .ref (x + 49 + 3 * t)), (6, .int 1), (5, .int (nI (t % 2))), (0, .ref x), (1, .ref c), (2, .ref (x + 67 + 2 * s)), (3, .int (nI t)), (4, .int (nI D))]) dX11_rowsBy_61 (by decide) rfl ?_
      refine JJ_iconst (v := 0) dX11_rowsBy_63 rfl ?_
      refine JJ_istore (lv' := [(8, .int 0), (7, .ref (x + 49 + 3 * t)), (6, .int 1), (5, .int (nI (t % 2))), (0, .ref x), (1, .ref c), (2, .ref (x + 67 + 2 * s)), (3, .int (nI t)), (4, .int (nI D))]) dX11_rowsBy_64 (by decide) rfl ?_
      refine JJ_iconst (v := 0) dX11_rowsBy_66 rfl ?_
      refine JJ_istore (lv' := [(9, .int 0), (8, .int 0), (7, .ref (x + 49 + 3 * t)), (6, .int 1), (5, .int (nI (t % 2))), (0, .ref x), (1, .ref c), (2, .ref (x + 67 + 2 * s)), (3, .int (nI t)), (4, .int (nI D))]) dX11_rowsBy_67 (by decide) rfl ?_
      have key : ∀ (e i r : Nat) (Mx : Nat → Nat → Int32) (Lx : Nat → Nat → Int64) (Px : Nat → Nat → Option Nat), i + e = cn → r + (zfl (zgf s d B t (nI D)) e i).length = (zfl (zgf s d B t (nI D)) cn 0).length → fr (Mx x 18) (zfl (zgf s d B t (nI D)) e i) = fr (M x 18) (zfl (zgf s d B t (nI D)) cn 0) → (∀ b k, ¬ RoD x t b k → Mx b k = M b k) → (∀ b k, ¬ RoP x t b k → Px b k = P b k) → JJ G sc yX11_rowsBy cX11_rowsBy 11 (some .int) (9 + (d + 1)) 0 0 (fun v μ => v = some (.int (nI (zfl (zgf s d B t (nI D)) cn 0).length)) ∧ ∃ M' L' P', μ = (n, S, M', L', P') ∧ M' x 18 = fr (M x 18) (zfl (zgf s d B t (nI D)) cn 0) ∧ (∀ b k, ¬ RoD x t b k → M' b k = M b k) ∧ ∀ b k, ¬ RoP x t b k → P' b k = P b k) 69 [(9, .int (nI i)), (8, .int (nI r)), (0, .ref x), (1, .ref c), (2, .ref (x + 67 + 2 * s)), (3, .int (nI t)), (4, .int (nI D)), (5, .int (nI (t % 2))), (6, .int 1), (7, .ref (x + 49 + 3 * t))] [] (n, S, Mx, Lx, Px) := by
        intro e
        induction e with
        | zero =>
          intro i r Mx Lx Px hie hrl hfr hMx hPx
          have hCx : CWF x S Px := hC.keep (fun b k z1 z2 z => hPx b k (fun y => z (by unfold RoP at y; unfold CQP; omega)))
          have hctx : CTA x c Px Mx B := hct.keep (fun k => ⟨hMx _ _ (by unfold RoD; omega), hMx _ _ (by unfold RoD; omega), hMx _ _ (by unfold RoD; omega)⟩) (hPx _ _ (by unfold RoP; omega))
          have htx : TXS x Mx B := ht.keep (fun b k z1 z2 => hMx b k (by unfold RoD; omega)) h6
          have hstx : STS x n S Px Mx B := hst.keep (hMx _ _ (by unfold RoD; omega)) (fun b k z => hMx b k (by unfold RoD; omega)) (fun k => hPx _ _ (by unfold RoP; omega))
          refine JJ_iload dX11_rowsBy_69 rfl ?_
          refine JJ_aload_n dX11_rowsBy_71 rfl rfl ?_
          refine JJ_geti (v := nI cn) (cis := [11]) (k := 4) fa_X11_32 (by decide) (congrArg Prod.fst (hCx.sh (t := 0) (k := 12) (m := 0) (by decide))) rfl (hX.1 _ _ (by omega) (by omega) (by omega)) (hstx.1.trans hcA) dX11_rowsBy_72 ?_
          refine JJ_icmp_ge (tgt := 170) dX11_rowsBy_75 (by decide) (fun _ => ?_) (fun c8 => absurd (nI_le (by omega) (by omega)) c8)
          refine JJ_iload dX11_rowsBy_170 rfl ?_
          refine JJ_iret dX11_rowsBy_172 rfl ?_
          exact ⟨congrArg (fun z => some (Value.int (nI z))) (hrl : r + 0 = _), Mx, Lx, Px, rfl, (fr_nil.symm.trans hfr), hMx, hPx⟩
        | succ e ihe =>
          intro i r Mx Lx Px hie hrl hfr hMx hPx
          have hCx : CWF x S Px := hC.keep (fun b k z1 z2 z => hPx b k (fun y => z (by unfold RoP at y; unfold CQP; omega)))
          have hctx : CTA x c Px Mx B := hct.keep (fun k => ⟨hMx _ _ (by unfold RoD; omega), hMx _ _ (by unfold RoD; omega), hMx _ _ (by unfold RoD; omega)⟩) (hPx _ _ (by unfold RoP; omega))
          have htx : TXS x Mx B := ht.keep (fun b k z1 z2 => hMx b k (by unfold RoD; omega)) h6
          have hstx : STS x n S Px Mx B := hst.keep (hMx _ _ (by unfold RoD; omega)) (fun b k z => hMx b k (by unfold RoD; omega)) (fun k => hPx _ _ (by unfold RoP; omega))
          have hq : i < zcnt B := by omega
          obtain ⟨a, ha, ha1, ha2, hsk⟩ := hstx.at hq
          have hMNx : Mx (x + 67 + 2 * s) 2 = nI N := (hMx _ _ (by unfold RoD; omega)).trans hMN
          have hMIx : Mx (x + 67 + 2 * s + 1) t = B.1 (20 + s) t := (hMx _ _ (by unfold RoD; omega)).trans (hMI t (by omega))
          refine JJ_iload dX11_rowsBy_69 rfl ?_
          refine JJ_aload_n dX11_rowsBy_71 rfl rfl ?_
          refine JJ_geti (v := nI cn) (cis := [11]) (k := 4) fa_X11_32 (by decide) (congrArg Prod.fst (hCx.sh (t := 0) (k := 12) (m := 0) (by decide))) rfl (hX.1 _ _ (by omega) (by omega) (by omega)) (hstx.1.trans hcA) dX11_rowsBy_72 ?_
          refine JJ_icmp_ge (tgt := 170) dX11_rowsBy_75 (by decide) (fun c9 => absurd c9 (nI_ge (by omega) (by omega))) (fun _ => ?_)
          refine JJ_aload_n dX11_rowsBy_78 rfl rfl ?_
          refine JJ_iload dX11_rowsBy_79 rfl ?_
          refine JJ_callV (rest := []) (congrArg Prod.fst (hCx.sh (t := 0) (k := 12) (m := 0) (by decide))) rfl rfl (kc_strokeAt hq ha hstx hg hCx hX) (by omega) mi_X11_strokeAt lk_X11_129 rfl (Nat.le_of_ble_eq_true rfl) rfl rfl dX11_rowsBy_81 ?_
          intro v10 μ11 h12
          obtain ⟨rfl, rfl⟩ := h12
          refine JJ_r1 ?_
          refine JJ_astore (lv' := [(10, .ref a), (9, .int (nI i)), (8, .int (nI r)), (0, .ref x), (1, .ref c), (2, .ref (x + 67 + 2 * s)), (3, .int (nI t)), (4, .int (nI D)), (5, .int (nI (t % 2))), (6, .int 1), (7, .ref (x + 49 + 3 * t))]) dX11_rowsBy_84 (by decide) rfl ?_
          refine JJ_aload dX11_rowsBy_86 rfl ?_
          refine JJ_ifnullR dX11_rowsBy_88 ?_
          refine JJ_aload dX11_rowsBy_91 rfl ?_
          refine JJ_aload_n dX11_rowsBy_93 rfl rfl ?_
          refine JJ_iload dX11_rowsBy_94 rfl ?_
          refine JJ_callV (rest := [.ref a]) (congrArg Prod.fst (hctx.1.sh hCx).1) rfl rfl (kc_one (c := c) (p := t % 2) hp (hctx.rt hg htx) hCx hX) (by omega) mi_X1_one lk_X11_119 rfl (Nat.le_of_ble_eq_true rfl) rfl rfl dX11_rowsBy_96 ?_
          intro v13 μ14 h15
          obtain ⟨rfl, rfl⟩ := h15
          refine JJ_r1 ?_
          refine JJ_geti (v := B.1 0 (t % 2)) (cis := [6]) (k := 0) fa_X11_150 (by decide) (hctx.1.pl hCx (p := (t % 2)) (by omega)) rfl (hX.1 _ _ (by omega) (by omega) (by omega)) (hctx.c0 hp) dX11_rowsBy_99 ?_
          refine ju_X11_153 hsk rfl (fun k => hX.2.1 _ _ ha1) (by omega) (Nat.le_of_ble_eq_true rfl) dX11_rowsBy_102 ?_
          refine JJ_aload_n dX11_rowsBy_105 rfl rfl ?_
          refine JJ_iload_n dX11_rowsBy_106 rfl rfl ?_
          refine JJ_callV (rest := [.int (s_comes (B.1 5 i) (B.1 7 i) (B.1 0 (t % 2)))]) (congrArg Prod.fst (hCx.2.2.2.2 s hs).1) rfl rfl (kc_item (j := t) hMNx (by omega) (by omega) hs hCx hX) (by omega) mi_X7_item lk_X11_277 rfl (Nat.le_of_ble_eq_true rfl) rfl rfl dX11_rowsBy_107 ?_
          intro v16 μ17 h18
          obtain ⟨rfl, rfl⟩ := h18
          refine JJ_r1 ?_
          refine JJ_eqi (x2 := B.1 (20 + s) t) hMIx ?_
          refine JJ_icmp_eq (tgt := 116) dX11_rowsBy_110 (by decide) (fun c19 => ?_) (fun c19 => ?_)
          · skip
            refine JJ_aload dX11_rowsBy_116 rfl ?_
            refine JJ_aload_n dX11_rowsBy_118 rfl rfl ?_
            refine JJ_callV (rest := []) (congrArg Prod.fst (hC0.sh hCx).1) rfl rfl (kc_take (c := x + 49 + 3 * t) (e := c) (by omega) hC0 hctx.1 hctx.2.2.2 hCx hX) (by omega) mi_X1_take lk_X11_245 rfl (Nat.le_of_ble_eq_true rfl) rfl rfl dX11_rowsBy_119 ?_
            intro v20 μ21 h22
            obtain ⟨rfl, Ma, Pa, rfl, htk1, htk2, htk3, htk4⟩ := h22
            refine JJ_r0 ?_
            have hPa : ∀ b k, ¬ RoP x t b k → Pa b k = P b k := fun b k z => rd_n htk4 (fun e => z (by unfold RoP; omega)) (hPx b k z)
            have hMa0 : ∀ b k, ¬ (x + 49 + 3 * t ≤ b ∧ b < x + 67) → Ma b k = Mx b k := fun b k z => htk3 b k (by omega)
            have hMa : ∀ b k, ¬ RoD x t b k → Ma b k = M b k := fun b k z => (hMa0 b k (fun y => z (by unfold RoD; omega))).trans (hMx b k z)
            have hctA : CTA x (x + 49 + 3 * t) Pa Ma B := CTA_take hctx hC0 htk1 htk2 htk4
            have hCa : CWF x S Pa := hC.keep (fun b k z1 z2 z => hPa b k (fun y => z (by unfold RoP at y; unfold CQP; omega)))
            have htA : TXS x Ma B := ht.keep (fun b k z1 z2 => hMa b k (by unfold RoD; omega)) h6
            have hskA := hsk.keep (M' := Ma) (hMa0 _ _ (by omega)) (hMa0 _ _ (by omega))
            refine JJ_aload dX11_rowsBy_122 rfl ?_
            refine JJ_iload dX11_rowsBy_124 rfl ?_
            refine JJ_aload dX11_rowsBy_126 rfl ?_
            refine JJ_callV (rest := []) (congrArg Prod.fst (hC0.sh hCx).1) rfl rfl (kc_strikeA (p := t % 2) hp hq hskA ha1 hctA htA hg3 hCa hX) (by omega) mi_X1_strike lk_X11_250 rfl (Nat.le_of_ble_eq_true rfl) rfl rfl dX11_rowsBy_128 ?_
            intro v23 μ24 h25
            obtain ⟨rfl, Mb, rfl, hctB, hfb⟩ := h25
            refine JJ_r1 ?_
            have hMb0 : ∀ b k, ¬ (x + 49 + 3 * t ≤ b ∧ b < x + 67) → Mb b k = Mx b k := fun b k z => (hfb b k (fun y => z (by unfold CD at y; omega))).trans (hMa0 b k z)
            have hMb : ∀ b k, ¬ RoD x t b k → Mb b k = M b k := fun b k z => (hMb0 b k (fun y => z (by unfold RoD; omega))).trans (hMx b k z)
            refine JJ_if_eq (tgt := 139) dX11_rowsBy_131 (by decide) (fun c26 => ?_) (fun c26 => ?_)
            · skip
              refine JJ_iload dX11_rowsBy_139 rfl ?_
              refine JJ_aload_n dX11_rowsBy_141 rfl rfl ?_
              refine JJ_aload dX11_rowsBy_142 rfl ?_
              refine JJ_aload_n dX11_rowsBy_144 rfl rfl ?_
              refine JJ_iload_n dX11_rowsBy_145 rfl rfl ?_
              refine JJ_iconst (v := 1) dX11_rowsBy_146 rfl ?_
              refine JJ_iadd dX11_rowsBy_147 ?_
              refine JJ_eqi (x2 := nI (t + 1)) (nI_add (t) (1)) ?_
              refine JJ_iload dX11_rowsBy_148 rfl ?_
              refine JJ_bipush (v := 10) dX11_rowsBy_150 rfl ?_
              refine JJ_imul dX11_rowsBy_152 ?_
              refine JJ_eqi (x2 := nI (D * 10)) (pk_mul (D) (10)) ?_
              refine JJ_iload dX11_rowsBy_153 rfl ?_
              refine JJ_iadd dX11_rowsBy_155 ?_
              refine JJ_eqi (x2 := nI (D * 10 + i)) (nI_add (D * 10) (i)) ?_
              refine JJ_iconst (v := 1) dX11_rowsBy_156 rfl ?_
              refine JJ_iadd dX11_rowsBy_157 ?_
              refine JJ_eqi (x2 := nI (D * 10 + i + 1)) (nI_add (D * 10 + i) (1)) ?_
              have hfi := zgf_1 (A := B) (s := s) (dg := nI D) (at' := t) (k := i) (d := d) ⟨c19, Or.inr hd0⟩
              rw [dg_e] at hfi
              have htB : TXS x Mb (zPut B (za B i (t % 2))) := TXS_put (ht.keep (fun b k z1 z2 => hMb b k (by unfold RoD; omega)) h6)
              have hstB : STS x n S Pa Mb (zPut B (za B i (t % 2))) := STS_put (hst.keep (hMb _ _ (by unfold RoD; omega)) (fun b k z => hMb b k (by unfold RoD; omega)) (fun k => hPa _ _ (by unfold RoP; omega)))
              obtain ⟨q, hql⟩ : ∃ q, q = (zgo s d (zPut B (za B i (t % 2))) (t + 1) (nI (D * 10 + i + 1))).length := ⟨_, rfl⟩
              refine JJ_callV (rest := [.int (nI r)]) (congrArg Prod.fst (hCx.sh (t := 0) (k := 12) (m := 0) (by decide))) rfl rfl (ih (t + 1) (x + 49 + 3 * t) (D * 10 + i + 1) (zPut B (za B i (t % 2))) Mb Lx Pa (by omega) (by rw [Nat.pow_succ]; omega) hctB (by omega) htB hstB (rn3_sa hg3 hp hq) ((hMb _ _ (by unfold RoD; omega)).trans hMN) (fun j hj => (hMb _ _ (by unfold RoD; omega)).trans ((hMI j hj).trans (zPut_o (by omega)).symm)) hCa) (by omega) mi_X11_rowsBy lk_X11_226 rfl (Nat.le_of_ble_eq_true rfl) rfl rfl dX11_rowsBy_158 ?_
              intro v27 μ28 h29
              obtain ⟨rfl, Mc, Lc, Pc, rfl, h18, hMc, hPc⟩ := h29
              refine JJ_r1 ?_
              refine JJ_eqi (x2 := nI q) (by rw [hql]) ?_
              refine JJ_iadd dX11_rowsBy_161 ?_
              refine JJ_eqi (x2 := nI (r + q)) (nI_add (r) (q)) ?_
              refine JJ_istore (lv' := [(8, .int (nI (r + q))), (10, .ref a), (9, .int (nI i)), (0, .ref x), (1, .ref c), (2, .ref (x + 67 + 2 * s)), (3, .int (nI t)), (4, .int (nI D)), (5, .int (nI (t % 2))), (6, .int 1), (7, .ref (x + 49 + 3 * t))]) dX11_rowsBy_162 (by decide) rfl ?_
              refine JJ_iinc (v := nI (i + 1)) (lv' := [(9, .int (nI (i + 1))), (8, .int (nI (r + q))), (10, .ref a), (0, .ref x), (1, .ref c), (2, .ref (x + 67 + 2 * s)), (3, .int (nI t)), (4, .int (nI D)), (5, .int (nI (t % 2))), (6, .int 1), (7, .ref (x + 49 + 3 * t))]) dX11_rowsBy_164 rfl (nI_add (i) 1) (by decide) rfl ?_
              refine JJ_goto (tgt := 69) dX11_rowsBy_167 (by decide) ?_
              refine JJ.pick [0, 1, 3, 4, 5, 6, 7, 8, 9, 10] rfl ?_
              have hne := zgo_ne (s := s) d (t + 1) (D * 10 + i + 1) (zPut B (za B i (t % 2))) (by omega) (by rw [Nat.pow_succ]; omega) (by rw [zPut_zcnt]; omega)
              have hzl : zfl (zgf s d B t (nI D)) (e + 1) i = zgo s d (zPut B (za B i (t % 2))) (t + 1) (nI (D * 10 + i + 1)) ++ zfl (zgf s d B t (nI D)) e (i + 1) := by show (zgf s d B t (nI D)) i ++ _ = _; rw [hfi]
              rw [hzl, List.length_append, ← hql] at hrl
              rw [hzl, fr_app hne, ← hMb0 x 18 (by omega), ← h18] at hfr
              exact ihe (i + 1) (r + q) Mc Lc Pc (by omega) (by omega) hfr (fun b k z => (hMc b k (fun y => z y.up)).trans (hMb b k z)) (fun b k z => (hPc b k (fun y => z y.up)).trans (hPa b k z))
            · skip
              refine JJ_iload dX11_rowsBy_134 rfl ?_
              refine JJ_if_eq (tgt := 164) dX11_rowsBy_136 (by decide) (fun c30 => absurd c30 (by decide)) (fun _ => ?_)
              refine JJ_iload dX11_rowsBy_139 rfl ?_
              refine JJ_aload_n dX11_rowsBy_141 rfl rfl ?_
              refine JJ_aload dX11_rowsBy_142 rfl ?_
              refine JJ_aload_n dX11_rowsBy_144 rfl rfl ?_
              refine JJ_iload_n dX11_rowsBy_145 rfl rfl ?_
              refine JJ_iconst (v := 1) dX11_rowsBy_146 rfl ?_
              refine JJ_iadd dX11_rowsBy_147 ?_
              refine JJ_eqi (x2 := nI (t + 1)) (nI_add (t) (1)) ?_
              refine JJ_iload dX11_rowsBy_148 rfl ?_
              refine JJ_bipush (v := 10) dX11_rowsBy_150 rfl ?_
              refine JJ_imul dX11_rowsBy_152 ?_
              refine JJ_eqi (x2 := nI (D * 10)) (pk_mul (D) (10)) ?_
              refine JJ_iload dX11_rowsBy_153 rfl ?_
              refine JJ_iadd dX11_rowsBy_155 ?_
              refine JJ_eqi (x2 := nI (D * 10 + i)) (nI_add (D * 10) (i)) ?_
              refine JJ_iconst (v := 1) dX11_rowsBy_156 rfl ?_
              refine JJ_iadd dX11_rowsBy_157 ?_
              refine JJ_eqi (x2 := nI (D * 10 + i + 1)) (nI_add (D * 10 + i) (1)) ?_
              have hfi := zgf_1 (A := B) (s := s) (dg := nI D) (at' := t) (k := i) (d := d) ⟨c19, Or.inr hd0⟩
              rw [dg_e] at hfi
              have htB : TXS x Mb (zPut B (za B i (t % 2))) := TXS_put (ht.keep (fun b k z1 z2 => hMb b k (by unfold RoD; omega)) h6)
              have hstB : STS x n S Pa Mb (zPut B (za B i (t % 2))) := STS_put (hst.keep (hMb _ _ (by unfold RoD; omega)) (fun b k z => hMb b k (by unfold RoD; omega)) (fun k => hPa _ _ (by unfold RoP; omega)))
              obtain ⟨q, hql⟩ : ∃ q, q = (zgo s d (zPut B (za B i (t % 2))) (t + 1) (nI (D * 10 + i + 1))).length := ⟨_, rfl⟩
              refine JJ_callV (rest := [.int (nI r)]) (congrArg Prod.fst (hCx.sh (t := 0) (k := 12) (m := 0) (by decide))) rfl rfl (ih (t + 1) (x + 49 + 3 * t) (D * 10 + i + 1) (zPut B (za B i (t % 2))) Mb Lx Pa (by omega) (by rw [Nat.pow_succ]; omega) hctB (by omega) htB hstB (rn3_sa hg3 hp hq) ((hMb _ _ (by unfold RoD; omega)).trans hMN) (fun j hj => (hMb _ _ (by unfold RoD; omega)).trans ((hMI j hj).trans (zPut_o (by omega)).symm)) hCa) (by omega) mi_X11_rowsBy lk_X11_226 rfl (Nat.le_of_ble_eq_true rfl) rfl rfl dX11_rowsBy_158 ?_
              intro v31 μ32 h33
              obtain ⟨rfl, Mc, Lc, Pc, rfl, h18, hMc, hPc⟩ := h33
              refine JJ_r1 ?_
              refine JJ_eqi (x2 := nI q) (by rw [hql]) ?_
              refine JJ_iadd dX11_rowsBy_161 ?_
              refine JJ_eqi (x2 := nI (r + q)) (nI_add (r) (q)) ?_
              refine JJ_istore (lv' := [(8, .int (nI (r + q))), (10, .ref a), (9, .int (nI i)), (0, .ref x), (1, .ref c), (2, .ref (x + 67 + 2 * s)), (3, .int (nI t)), (4, .int (nI D)), (5, .int (nI (t % 2))), (6, .int 1), (7, .ref (x + 49 + 3 * t))]) dX11_rowsBy_162 (by decide) rfl ?_
              refine JJ_iinc (v := nI (i + 1)) (lv' := [(9, .int (nI (i + 1))), (8, .int (nI (r + q))), (10, .ref a), (0, .ref x), (1, .ref c), (2, .ref (x + 67 + 2 * s)), (3, .int (nI t)), (4, .int (nI D)), (5, .int (nI (t % 2))), (6, .int 1), (7, .ref (x + 49 + 3 * t))]) dX11_rowsBy_164 rfl (nI_add (i) 1) (by decide) rfl ?_
              refine JJ_goto (tgt := 69) dX11_rowsBy_167 (by decide) ?_
              refine JJ.pick [0, 1, 3, 4, 5, 6, 7, 8, 9, 10] rfl ?_
              have hne := zgo_ne (s := s) d (t + 1) (D * 10 + i + 1) (zPut B (za B i (t % 2))) (by omega) (by rw [Nat.pow_succ]; omega) (by rw [zPut_zcnt]; omega)
              have hzl : zfl (zgf s d B t (nI D)) (e + 1) i = zgo s d (zPut B (za B i (t % 2))) (t + 1) (nI (D * 10 + i + 1)) ++ zfl (zgf s d B t (nI D)) e (i + 1) := by show (zgf s d B t (nI D)) i ++ _ = _; rw [hfi]
              rw [hzl, List.length_append, ← hql] at hrl
              rw [hzl, fr_app hne, ← hMb0 x 18 (by omega), ← h18] at hfr
              exact ihe (i + 1) (r + q) Mc Lc Pc (by omega) (by omega) hfr (fun b k z => (hMc b k (fun y => z y.up)).trans (hMb b k z)) (fun b k z => (hPc b k (fun y => z y.up)).trans (hPa b k z))
          · skip
            refine JJ_goto (tgt := 164) dX11_rowsBy_113 (by decide) ?_
            refine JJ_iinc (v := nI (i + 1)) (lv' := [(9, .int (nI (i + 1))), (10, .ref a), (8, .int (nI r)), (0, .ref x), (1, .ref c), (2, .ref (x + 67 + 2 * s)), (3, .int (nI t)), (4, .int (nI D)), (5, .int (nI (t % 2))), (6, .int 1), (7, .ref (x + 49 + 3 * t))]) dX11_rowsBy_164 rfl (nI_add (i) 1) (by decide) rfl ?_
            refine JJ_goto (tgt := 69) dX11_rowsBy_167 (by decide) ?_
            refine JJ.pick [0, 2, 3, 4, 5, 6, 7, 8, 9, 10] rfl ?_
            have hfi := zgf_0 (A := B) (s := s) (dg := nI D) (at' := t) (k := i) (d := d) (fun z => c19 z.1)
            have hzl : zfl (zgf s d B t (nI D)) (e + 1) i = zfl (zgf s d B t (nI D)) e (i + 1) := by show (zgf s d B t (nI D)) i ++ _ = _; rw [hfi]; rfl
            rw [hzl] at hrl hfr
            exact ihe (i + 1) r Mx Lx Px (by omega) hrl hfr hMx hPx
      refine JJ.pick [0, 1, 5, 6, 7, 8, 9, 4, 3, 2] rfl ?_
      exact key cn 0 0 M L P (by omega) (Nat.zero_add _) rfl (fun _ _ _ => rfl) (fun _ _ _ => rfl)
    · skip
      refine KK_of2 [(0, .ref x), (1, .ref c), (2, .ref (x + 67 + 2 * s)), (3, .int (nI t)), (4, .int (nI D))] (by decide +kernel) (Nat.le_of_ble_eq_true rfl) rfl ?_
      refine JJ_iload_n dX11_rowsBy_0 rfl rfl ?_
      refine JJ_aload_n dX11_rowsBy_1 rfl rfl ?_
      refine JJ_geti (v := nI N) (cis := [7]) (k := 2) fa_X11_225 (by decide) (congrArg Prod.fst (hC.2.2.2.2 s hs).1) rfl (hX.1 _ _ (by omega) (by omega) (by omega)) hMN dX11_rowsBy_2 ?_
      refine JJ_icmp_ge (tgt := 17) dX11_rowsBy_5 (by decide) (fun c34 => absurd c34 (nI_ge (by omega) (by omega))) (fun _ => ?_)
      refine JJ_iload_n dX11_rowsBy_8 rfl rfl ?_
      refine JJ_aload_n dX11_rowsBy_9 rfl rfl ?_
      refine JJ_getr (q := x + 5) (cis := [11]) (k := 7) fa_X11_37 (by decide) (congrArg Prod.fst (hC.sh (t := 0) (k := 12) (m := 0) (by decide))) rfl (hC.rf (t := 0) (s := 7) (u := 5) (by decide)) dX11_rowsBy_10 ?_
      refine JJ_alen (t := 4) (hC.sh (t := 5) (k := 24) (m := 6) (by decide)) (by decide) dX11_rowsBy_13 ?_
      refine JJ_icmp_lt (tgt := 33) dX11_rowsBy_14 (by decide) (fun _ => ?_) (fun c35 => absurd (nI_lt1 (m := 6) (by omega) (by omega)) c35)
      refine JJ_iload_n dX11_rowsBy_33 rfl rfl ?_
      refine JJ_iconst (v := 2) dX11_rowsBy_34 rfl ?_
      refine JJ_irem dX11_rowsBy_35 (by decide) ?_
      refine JJ_eqi (x2 := nI (t % 2)) (pk_rem (a := t) (d := 2) (by omega) (by decide) (by decide)) ?_
      refine JJ_istore (lv' := [(5, .int (nI (t % 2))), (0, .ref x), (1, .ref c), (2, .ref (x + 67 + 2 * s)), (3, .int (nI t)), (4, .int (nI D))]) dX11_rowsBy_36 (by decide) rfl ?_
      refine JJ_iload_n dX11_rowsBy_38 rfl rfl ?_
      refine JJ_aload_n dX11_rowsBy_39 rfl rfl ?_
      refine JJ_geti (v := nI N) (cis := [7]) (k := 2) fa_X11_225 (by decide) (congrArg Prod.fst (hC.2.2.2.2 s hs).1) rfl (hX.1 _ _ (by omega) (by omega) (by omega)) hMN dX11_rowsBy_40 ?_
      refine JJ_iconst (v := 1) dX11_rowsBy_43 rfl ?_
      refine JJ_isub dX11_rowsBy_44 ?_
      refine JJ_eqi (x2 := nI (N - 1)) (pk_sub (a := N) (b := 1) (by omega)) ?_
      refine JJ_icmp_ne (tgt := 52) dX11_rowsBy_45 (by decide) (fun _ => ?_) (fun c36 => absurd c36 (fun y => by have := nI_inj (by omega) (by omega) y; omega))
      refine JJ_iconst (v := 0) dX11_rowsBy_52 rfl ?_
      refine JJ_istore (lv' := [(6, .int 0), (5, .int (nI (t % 2))), (0, .ref x), (1, .ref c), (2, .ref (x + 67 + 2 * s)), (3, .int (nI t)), (4, .int (nI D))]) dX11_rowsBy_53 (by decide) rfl ?_
      refine JJ_aload_n dX11_rowsBy_55 rfl rfl ?_
      refine JJ_getr (q := x + 5) (cis := [11]) (k := 7) fa_X11_37 (by decide) (congrArg Prod.fst (hC.sh (t := 0) (k := 12) (m := 0) (by decide))) rfl (hC.rf (t := 0) (s := 7) (u := 5) (by decide)) dX11_rowsBy_56 ?_
      refine JJ_iload_n dX11_rowsBy_59 rfl rfl ?_
      refine JJ_aaldX (t := 2) (q := x + 49 + 3 * t) (hC.sh (t := 5) (k := 24) (m := 6) (by decide)) (by decide) (IX_nI (by omega) (by omega)) (hC.ahd (by omega)) dX11_rowsBy_60 ?_
      refine JJ_astore (lv' := [(7, .ref (x + 49 + 3 * t)), (6, .int 0), (5, .int (nI (t % 2))), (0, .ref x), (1, .ref c), (2, .ref (x + 67 + 2 * s)), (3, .int (nI t)), (4, .int (nI D))]) dX11_rowsBy_61 (by decide) rfl ?_
      refine JJ_iconst (v := 0) dX11_rowsBy_63 rfl ?_
      refine JJ_istore (lv' := [(8, .int 0), (7, .ref (x + 49 + 3 * t)), (6, .int 0), (5, .int (nI (t % 2))), (0, .ref x), (1, .ref c), (2, .ref (x + 67 + 2 * s)), (3, .int (nI t)), (4, .int (nI D))]) dX11_rowsBy_64 (by decide) rfl ?_
      refine JJ_iconst (v := 0) dX11_rowsBy_66 rfl ?_
      refine JJ_istore (lv' := [(9, .int 0), (8, .int 0), (7, .ref (x + 49 + 3 * t)), (6, .int 0), (5, .int (nI (t % 2))), (0, .ref x), (1, .ref c), (2, .ref (x + 67 + 2 * s)), (3, .int (nI t)), (4, .int (nI D))]) dX11_rowsBy_67 (by decide) rfl ?_
      have key : ∀ (e i r : Nat) (Mx : Nat → Nat → Int32) (Lx : Nat → Nat → Int64) (Px : Nat → Nat → Option Nat), i + e = cn → r + (zfl (zgf s d B t (nI D)) e i).length = (zfl (zgf s d B t (nI D)) cn 0).length → fr (Mx x 18) (zfl (zgf s d B t (nI D)) e i) = fr (M x 18) (zfl (zgf s d B t (nI D)) cn 0) → (∀ b k, ¬ RoD x t b k → Mx b k = M b k) → (∀ b k, ¬ RoP x t b k → Px b k = P b k) → JJ G sc yX11_rowsBy cX11_rowsBy 11 (some .int) (9 + (d + 1)) 0 0 (fun v μ => v = some (.int (nI (zfl (zgf s d B t (nI D)) cn 0).length)) ∧ ∃ M' L' P', μ = (n, S, M', L', P') ∧ M' x 18 = fr (M x 18) (zfl (zgf s d B t (nI D)) cn 0) ∧ (∀ b k, ¬ RoD x t b k → M' b k = M b k) ∧ ∀ b k, ¬ RoP x t b k → P' b k = P b k) 69 [(9, .int (nI i)), (8, .int (nI r)), (0, .ref x), (1, .ref c), (2, .ref (x + 67 + 2 * s)), (3, .int (nI t)), (4, .int (nI D)), (5, .int (nI (t % 2))), (6, .int 0), (7, .ref (x + 49 + 3 * t))] [] (n, S, Mx, Lx, Px) := by
        intro e
        induction e with
        | zero =>
          intro i r Mx Lx Px hie hrl hfr hMx hPx
          have hCx : CWF x S Px := hC.keep (fun b k z1 z2 z => hPx b k (fun y => z (by unfold RoP at y; unfold CQP; omega)))
          have hctx : CTA x c Px Mx B := hct.keep (fun k => ⟨hMx _ _ (by unfold RoD; omega), hMx _ _ (by unfold RoD; omega), hMx _ _ (by unfold RoD; omega)⟩) (hPx _ _ (by unfold RoP; omega))
          have htx : TXS x Mx B := ht.keep (fun b k z1 z2 => hMx b k (by unfold RoD; omega)) h6
          have hstx : STS x n S Px Mx B := hst.keep (hMx _ _ (by unfold RoD; omega)) (fun b k z => hMx b k (by unfold RoD; omega)) (fun k => hPx _ _ (by unfold RoP; omega))
          refine JJ_iload dX11_rowsBy_69 rfl ?_
          refine JJ_aload_n dX11_rowsBy_71 rfl rfl ?_
          refine JJ_geti (v := nI cn) (cis := [11]) (k := 4) fa_X11_32 (by decide) (congrArg Prod.fst (hCx.sh (t := 0) (k := 12) (m := 0) (by decide))) rfl (hX.1 _ _ (by omega) (by omega) (by omega)) (hstx.1.trans hcA) dX11_rowsBy_72 ?_
          refine JJ_icmp_ge (tgt := 170) dX11_rowsBy_75 (by decide) (fun _ => ?_) (fun c37 => absurd (nI_le (by omega) (by omega)) c37)
          refine JJ_iload dX11_rowsBy_170 rfl ?_
          refine JJ_iret dX11_rowsBy_172 rfl ?_
          exact ⟨congrArg (fun z => some (Value.int (nI z))) (hrl : r + 0 = _), Mx, Lx, Px, rfl, (fr_nil.symm.trans hfr), hMx, hPx⟩
        | succ e ihe =>
          intro i r Mx Lx Px hie hrl hfr hMx hPx
          have hCx : CWF x S Px := hC.keep (fun b k z1 z2 z => hPx b k (fun y => z (by unfold RoP at y; unfold CQP; omega)))
          have hctx : CTA x c Px Mx B := hct.keep (fun k => ⟨hMx _ _ (by unfold RoD; omega), hMx _ _ (by unfold RoD; omega), hMx _ _ (by unfold RoD; omega)⟩) (hPx _ _ (by unfold RoP; omega))
          have htx : TXS x Mx B := ht.keep (fun b k z1 z2 => hMx b k (by unfold RoD; omega)) h6
          have hstx : STS x n S Px Mx B := hst.keep (hMx _ _ (by unfold RoD; omega)) (fun b k z => hMx b k (by unfold RoD; omega)) (fun k => hPx _ _ (by unfold RoP; omega))
          have hq : i < zcnt B := by omega
          obtain ⟨a, ha, ha1, ha2, hsk⟩ := hstx.at hq
          have hMNx : Mx (x + 67 + 2 * s) 2 = nI N := (hMx _ _ (by unfold RoD; omega)).trans hMN
          have hMIx : Mx (x + 67 + 2 * s + 1) t = B.1 (20 + s) t := (hMx _ _ (by unfold RoD; omega)).trans (hMI t (by omega))
          refine JJ_iload dX11_rowsBy_69 rfl ?_
          refine JJ_aload_n dX11_rowsBy_71 rfl rfl ?_
          refine JJ_geti (v := nI cn) (cis := [11]) (k := 4) fa_X11_32 (by decide) (congrArg Prod.fst (hCx.sh (t := 0) (k := 12) (m := 0) (by decide))) rfl (hX.1 _ _ (by omega) (by omega) (by omega)) (hstx.1.trans hcA) dX11_rowsBy_72 ?_
          refine JJ_icmp_ge (tgt := 170) dX11_rowsBy_75 (by decide) (fun c38 => absurd c38 (nI_ge (by omega) (by omega))) (fun _ => ?_)
          refine JJ_aload_n dX11_rowsBy_78 rfl rfl ?_
          refine JJ_iload dX11_rowsBy_79 rfl ?_
          refine JJ_callV (rest := []) (congrArg Prod.fst (hCx.sh (t := 0) (k := 12) (m := 0) (by decide))) rfl rfl (kc_strokeAt hq ha hstx hg hCx hX) (by omega) mi_X11_strokeAt lk_X11_129 rfl (Nat.le_of_ble_eq_true rfl) rfl rfl dX11_rowsBy_81 ?_
          intro v39 μ40 h41
          obtain ⟨rfl, rfl⟩ := h41
          refine JJ_r1 ?_
          refine JJ_astore (lv' := [(10, .ref a), (9, .int (nI i)), (8, .int (nI r)), (0, .ref x), (1, .ref c), (2, .ref (x + 67 + 2 * s)), (3, .int (nI t)), (4, .int (nI D)), (5, .int (nI (t % 2))), (6, .int 0), (7, .ref (x + 49 + 3 * t))]) dX11_rowsBy_84 (by decide) rfl ?_
          refine JJ_aload dX11_rowsBy_86 rfl ?_
          refine JJ_ifnullR dX11_rowsBy_88 ?_
          refine JJ_aload dX11_rowsBy_91 rfl ?_
          refine JJ_aload_n dX11_rowsBy_93 rfl rfl ?_
          refine JJ_iload dX11_rowsBy_94 rfl ?_
          refine JJ_callV (rest := [.ref a]) (congrArg Prod.fst (hctx.1.sh hCx).1) rfl rfl (kc_one (c := c) (p := t % 2) hp (hctx.rt hg htx) hCx hX) (by omega) mi_X1_one lk_X11_119 rfl (Nat.le_of_ble_eq_true rfl) rfl rfl dX11_rowsBy_96 ?_
          intro v42 μ43 h44
          obtain ⟨rfl, rfl⟩ := h44
          refine JJ_r1 ?_
          refine JJ_geti (v := B.1 0 (t % 2)) (cis := [6]) (k := 0) fa_X11_150 (by decide) (hctx.1.pl hCx (p := (t % 2)) (by omega)) rfl (hX.1 _ _ (by omega) (by omega) (by omega)) (hctx.c0 hp) dX11_rowsBy_99 ?_
          refine ju_X11_153 hsk rfl (fun k => hX.2.1 _ _ ha1) (by omega) (Nat.le_of_ble_eq_true rfl) dX11_rowsBy_102 ?_
          refine JJ_aload_n dX11_rowsBy_105 rfl rfl ?_
          refine JJ_iload_n dX11_rowsBy_106 rfl rfl ?_
          refine JJ_callV (rest := [.int (s_comes (B.1 5 i) (B.1 7 i) (B.1 0 (t % 2)))]) (congrArg Prod.fst (hCx.2.2.2.2 s hs).1) rfl rfl (kc_item (j := t) hMNx (by omega) (by omega) hs hCx hX) (by omega) mi_X7_item lk_X11_277 rfl (Nat.le_of_ble_eq_true rfl) rfl rfl dX11_rowsBy_107 ?_
          intro v45 μ46 h47
          obtain ⟨rfl, rfl⟩ := h47
          refine JJ_r1 ?_
          refine JJ_eqi (x2 := B.1 (20 + s) t) hMIx ?_
          refine JJ_icmp_eq (tgt := 116) dX11_rowsBy_110 (by decide) (fun c48 => ?_) (fun c48 => ?_)
          · skip
            refine JJ_aload dX11_rowsBy_116 rfl ?_
            refine JJ_aload_n dX11_rowsBy_118 rfl rfl ?_
            refine JJ_callV (rest := []) (congrArg Prod.fst (hC0.sh hCx).1) rfl rfl (kc_take (c := x + 49 + 3 * t) (e := c) (by omega) hC0 hctx.1 hctx.2.2.2 hCx hX) (by omega) mi_X1_take lk_X11_245 rfl (Nat.le_of_ble_eq_true rfl) rfl rfl dX11_rowsBy_119 ?_
            intro v49 μ50 h51
            obtain ⟨rfl, Ma, Pa, rfl, htk1, htk2, htk3, htk4⟩ := h51
            refine JJ_r0 ?_
            have hPa : ∀ b k, ¬ RoP x t b k → Pa b k = P b k := fun b k z => rd_n htk4 (fun e => z (by unfold RoP; omega)) (hPx b k z)
            have hMa0 : ∀ b k, ¬ (x + 49 + 3 * t ≤ b ∧ b < x + 67) → Ma b k = Mx b k := fun b k z => htk3 b k (by omega)
            have hMa : ∀ b k, ¬ RoD x t b k → Ma b k = M b k := fun b k z => (hMa0 b k (fun y => z (by unfold RoD; omega))).trans (hMx b k z)
            have hctA : CTA x (x + 49 + 3 * t) Pa Ma B := CTA_take hctx hC0 htk1 htk2 htk4
            have hCa : CWF x S Pa := hC.keep (fun b k z1 z2 z => hPa b k (fun y => z (by unfold RoP at y; unfold CQP; omega)))
            have htA : TXS x Ma B := ht.keep (fun b k z1 z2 => hMa b k (by unfold RoD; omega)) h6
            have hskA := hsk.keep (M' := Ma) (hMa0 _ _ (by omega)) (hMa0 _ _ (by omega))
            refine JJ_aload dX11_rowsBy_122 rfl ?_
            refine JJ_iload dX11_rowsBy_124 rfl ?_
            refine JJ_aload dX11_rowsBy_126 rfl ?_
            refine JJ_callV (rest := []) (congrArg Prod.fst (hC0.sh hCx).1) rfl rfl (kc_strikeA (p := t % 2) hp hq hskA ha1 hctA htA hg3 hCa hX) (by omega) mi_X1_strike lk_X11_250 rfl (Nat.le_of_ble_eq_true rfl) rfl rfl dX11_rowsBy_128 ?_
            intro v52 μ53 h54
            obtain ⟨rfl, Mb, rfl, hctB, hfb⟩ := h54
            refine JJ_r1 ?_
            have hMb0 : ∀ b k, ¬ (x + 49 + 3 * t ≤ b ∧ b < x + 67) → Mb b k = Mx b k := fun b k z => (hfb b k (fun y => z (by unfold CD at y; omega))).trans (hMa0 b k z)
            have hMb : ∀ b k, ¬ RoD x t b k → Mb b k = M b k := fun b k z => (hMb0 b k (fun y => z (by unfold RoD; omega))).trans (hMx b k z)
            refine JJ_if_eq (tgt := 139) dX11_rowsBy_131 (by decide) (fun c55 => ?_) (fun c55 => ?_)
            · skip
              refine JJ_iload dX11_rowsBy_139 rfl ?_
              refine JJ_aload_n dX11_rowsBy_141 rfl rfl ?_
              refine JJ_aload dX11_rowsBy_142 rfl ?_
              refine JJ_aload_n dX11_rowsBy_144 rfl rfl ?_
              refine JJ_iload_n dX11_rowsBy_145 rfl rfl ?_
              refine JJ_iconst (v := 1) dX11_rowsBy_146 rfl ?_
              refine JJ_iadd dX11_rowsBy_147 ?_
              refine JJ_eqi (x2 := nI (t + 1)) (nI_add (t) (1)) ?_
              refine JJ_iload dX11_rowsBy_148 rfl ?_
              refine JJ_bipush (v := 10) dX11_rowsBy_150 rfl ?_
              refine JJ_imul dX11_rowsBy_152 ?_
              refine JJ_eqi (x2 := nI (D * 10)) (pk_mul (D) (10)) ?_
              refine JJ_iload dX11_rowsBy_153 rfl ?_
              refine JJ_iadd dX11_rowsBy_155 ?_
              refine JJ_eqi (x2 := nI (D * 10 + i)) (nI_add (D * 10) (i)) ?_
              refine JJ_iconst (v := 1) dX11_rowsBy_156 rfl ?_
              refine JJ_iadd dX11_rowsBy_157 ?_
              refine JJ_eqi (x2 := nI (D * 10 + i + 1)) (nI_add (D * 10 + i) (1)) ?_
              have hfi := zgf_1 (A := B) (s := s) (dg := nI D) (at' := t) (k := i) (d := d) ⟨c48, Or.inl (b2_0.mp c55)⟩
              rw [dg_e] at hfi
              have htB : TXS x Mb (zPut B (za B i (t % 2))) := TXS_put (ht.keep (fun b k z1 z2 => hMb b k (by unfold RoD; omega)) h6)
              have hstB : STS x n S Pa Mb (zPut B (za B i (t % 2))) := STS_put (hst.keep (hMb _ _ (by unfold RoD; omega)) (fun b k z => hMb b k (by unfold RoD; omega)) (fun k => hPa _ _ (by unfold RoP; omega)))
              obtain ⟨q, hql⟩ : ∃ q, q = (zgo s d (zPut B (za B i (t % 2))) (t + 1) (nI (D * 10 + i + 1))).length := ⟨_, rfl⟩
              refine JJ_callV (rest := [.int (nI r)]) (congrArg Prod.fst (hCx.sh (t := 0) (k := 12) (m := 0) (by decide))) rfl rfl (ih (t + 1) (x + 49 + 3 * t) (D * 10 + i + 1) (zPut B (za B i (t % 2))) Mb Lx Pa (by omega) (by rw [Nat.pow_succ]; omega) hctB (by omega) htB hstB (rn3_sa hg3 hp hq) ((hMb _ _ (by unfold RoD; omega)).trans hMN) (fun j hj => (hMb _ _ (by unfold RoD; omega)).trans ((hMI j hj).trans (zPut_o (by omega)).symm)) hCa) (by omega) mi_X11_rowsBy lk_X11_226 rfl (Nat.le_of_ble_eq_true rfl) rfl rfl dX11_rowsBy_158 ?_
              intro v56 μ57 h58
              obtain ⟨rfl, Mc, Lc, Pc, rfl, h18, hMc, hPc⟩ := h58
              refine JJ_r1 ?_
              refine JJ_eqi (x2 := nI q) (by rw [hql]) ?_
              refine JJ_iadd dX11_rowsBy_161 ?_
              refine JJ_eqi (x2 := nI (r + q)) (nI_add (r) (q)) ?_
              refine JJ_istore (lv' := [(8, .int (nI (r + q))), (10, .ref a), (9, .int (nI i)), (0, .ref x), (1, .ref c), (2, .ref (x + 67 + 2 * s)), (3, .int (nI t)), (4, .int (nI D)), (5, .int (nI (t % 2))), (6, .int 0), (7, .ref (x + 49 + 3 * t))]) dX11_rowsBy_162 (by decide) rfl ?_
              refine JJ_iinc (v := nI (i + 1)) (lv' := [(9, .int (nI (i + 1))), (8, .int (nI (r + q))), (10, .ref a), (0, .ref x), (1, .ref c), (2, .ref (x + 67 + 2 * s)), (3, .int (nI t)), (4, .int (nI D)), (5, .int (nI (t % 2))), (6, .int 0), (7, .ref (x + 49 + 3 * t))]) dX11_rowsBy_164 rfl (nI_add (i) 1) (by decide) rfl ?_
              refine JJ_goto (tgt := 69) dX11_rowsBy_167 (by decide) ?_
              refine JJ.pick [0, 1, 3, 4, 5, 6, 7, 8, 9, 10] rfl ?_
              have hne := zgo_ne (s := s) d (t + 1) (D * 10 + i + 1) (zPut B (za B i (t % 2))) (by omega) (by rw [Nat.pow_succ]; omega) (by rw [zPut_zcnt]; omega)
              have hzl : zfl (zgf s d B t (nI D)) (e + 1) i = zgo s d (zPut B (za B i (t % 2))) (t + 1) (nI (D * 10 + i + 1)) ++ zfl (zgf s d B t (nI D)) e (i + 1) := by show (zgf s d B t (nI D)) i ++ _ = _; rw [hfi]
              rw [hzl, List.length_append, ← hql] at hrl
              rw [hzl, fr_app hne, ← hMb0 x 18 (by omega), ← h18] at hfr
              exact ihe (i + 1) (r + q) Mc Lc Pc (by omega) (by omega) hfr (fun b k z => (hMc b k (fun y => z y.up)).trans (hMb b k z)) (fun b k z => (hPc b k (fun y => z y.up)).trans (hPa b k z))
            · skip
              refine JJ_iload dX11_rowsBy_134 rfl ?_
              refine JJ_if_eq (tgt := 164) dX11_rowsBy_136 (by decide) (fun _ => ?_) (fun c59 => absurd (by decide) c59)
              refine JJ_iinc (v := nI (i + 1)) (lv' := [(9, .int (nI (i + 1))), (10, .ref a), (8, .int (nI r)), (0, .ref x), (1, .ref c), (2, .ref (x + 67 + 2 * s)), (3, .int (nI t)), (4, .int (nI D)), (5, .int (nI (t % 2))), (6, .int 0), (7, .ref (x + 49 + 3 * t))]) dX11_rowsBy_164 rfl (nI_add (i) 1) (by decide) rfl ?_
              refine JJ_goto (tgt := 69) dX11_rowsBy_167 (by decide) ?_
              refine JJ.pick [0, 2, 3, 4, 5, 6, 7, 8, 9, 10] rfl ?_
              have hfi := zgf_0 (A := B) (s := s) (dg := nI D) (at' := t) (k := i) (d := d) (fun z => z.2.elim (fun y => y (b2_n.mp c55)) (fun y => by omega))
              have hzl : zfl (zgf s d B t (nI D)) (e + 1) i = zfl (zgf s d B t (nI D)) e (i + 1) := by show (zgf s d B t (nI D)) i ++ _ = _; rw [hfi]; rfl
              rw [hzl] at hrl hfr
              rw [← hMb0 x 18 (by omega)] at hfr
              exact ihe (i + 1) r Mb Lx Pa (by omega) hrl hfr hMb hPa
          · skip
            refine JJ_goto (tgt := 164) dX11_rowsBy_113 (by decide) ?_
            refine JJ_iinc (v := nI (i + 1)) (lv' := [(9, .int (nI (i + 1))), (10, .ref a), (8, .int (nI r)), (0, .ref x), (1, .ref c), (2, .ref (x + 67 + 2 * s)), (3, .int (nI t)), (4, .int (nI D)), (5, .int (nI (t % 2))), (6, .int 0), (7, .ref (x + 49 + 3 * t))]) dX11_rowsBy_164 rfl (nI_add (i) 1) (by decide) rfl ?_
            refine JJ_goto (tgt := 69) dX11_rowsBy_167 (by decide) ?_
            refine JJ.pick [0, 2, 3, 4, 5, 6, 7, 8, 9, 10] rfl ?_
            have hfi := zgf_0 (A := B) (s := s) (dg := nI D) (at' := t) (k := i) (d := d) (fun z => c48 z.1)
            have hzl : zfl (zgf s d B t (nI D)) (e + 1) i = zfl (zgf s d B t (nI D)) e (i + 1) := by show (zgf s d B t (nI D)) i ++ _ = _; rw [hfi]; rfl
            rw [hzl] at hrl hfr
            exact ihe (i + 1) r Mx Lx Px (by omega) hrl hfr hMx hPx
      refine JJ.pick [0, 1, 5, 6, 7, 8, 9, 4, 3, 2] rfl ?_
      exact key cn 0 0 M L P (by omega) (Nat.zero_add _) rfl (fun _ _ _ => rfl) (fun _ _ _ => rfl)
set_option maxHeartbeats 4000000 in
set_option maxRecDepth 100000 in
theorem kc_balls {s what : Int32} (hA : cABS x n S P M A) (hg2 : RNG2 A) (hC : CWF x S P) (hX : HSC x sc) : KK G sc yX11_balls cX11_balls 5 (some .int) 14 0 0 [.ref x, .int s, .int what] (n, S, M, L, P) (cI x n S M P (.int (zr_balls A s what)) A) := by
  have hg : RNG A := hg2.1
  have hrl := (rul_lt hg).1
  obtain ⟨cn, hc6, hcA, hcZ⟩ := cnt_e hg
  have h6 := (rul_lt hg).2
  have hct := hA.1
  have hrt := hct.rt hg hA.2.2.1
  have hst := hA.2.2.2.1
  have z0 : (0 : Int32).toInt = 0 := rfl
  have z1 : (1 : Int32).toInt = 1 := rfl
  by_cases hk1 : isSh s ∧ isPl what
  · skip
    obtain ⟨hs0, hpl⟩ := hk1
    obtain ⟨k, hk3, rfl⟩ := n_of (m := 3) (by decide) hs0
    have hk : k < 4 := by omega
    have hik : i2n (nI k) = k := nI_clamp (by omega)
    have hpw : 0 ≤ what.toInt ∧ what.toInt ≤ 1 := hpl
    by_cases h16 : A.1 16 k = 0
    · skip
      have hmi : M (x + 67 + 2 * k) 1 = -1 := ((hA.2.2.2.2.1 k hk).1).trans (if_pos h16)
      have e0 : zr_balls A (nI k) what = -11 := (if_neg (fun z => z ⟨hs0, hpl⟩)).trans (if_pos (by rw [hik]; exact h16))
      rw [e0]
      refine KK_of2 [(0, .ref x), (1, .int (nI k)), (2, .int what)] (by decide +kernel) (Nat.le_of_ble_eq_true rfl) rfl ?_
      refine JJ_aload_n dX11_balls_0 rfl rfl ?_
      refine JJ_iload_n dX11_balls_1 rfl rfl ?_
      refine JJ_callV (rest := []) (congrArg Prod.fst (hC.sh (t := 0) (k := 12) (m := 0) (by decide))) rfl rfl (kc_sheetAt hk hC hX) (by omega) mi_X11_sheetAt lk_X11_196 rfl (Nat.le_of_ble_eq_true rfl) rfl rfl dX11_balls_2 ?_
      intro v1 μ2 h3
      obtain ⟨rfl, rfl⟩ := h3
      refine JJ_r1 ?_
      refine JJ_astore_n (lv' := [(3, .ref (x + 67 + 2 * k)), (0, .ref x), (1, .int (nI k)), (2, .int what)]) dX11_balls_5 rfl (by decide) rfl ?_
      refine JJ_aload_n dX11_balls_6 rfl rfl ?_
      refine JJ_ifnullR dX11_balls_7 ?_
      refine JJ_iload_n dX11_balls_10 rfl rfl ?_
      refine JJ_if_lt (tgt := 19) dX11_balls_11 (by decide) (fun c4 => absurd c4 (fun y => by rw [i_lt] at y; omega)) (fun _ => ?_)
      refine JJ_iload_n dX11_balls_14 rfl rfl ?_
      refine JJ_iconst (v := 1) dX11_balls_15 rfl ?_
      refine JJ_icmp_le (tgt := 22) dX11_balls_16 (by decide) (fun _ => ?_) (fun c5 => absurd (i_le.mpr (by omega)) c5)
      refine JJ_aload_n dX11_balls_22 rfl rfl ?_
      refine JJ_callV (rest := []) (congrArg Prod.fst (hC.2.2.2.2 k hk).1) rfl rfl (kc_isMissing hk hC hX) (by omega) mi_X7_isMissing lk_X11_221 rfl (Nat.le_of_ble_eq_true rfl) rfl rfl dX11_balls_23 ?_
      intro v6 μ7 h8
      obtain ⟨rfl, rfl⟩ := h8
      refine JJ_r1 ?_
      refine JJ_eqi (x2 := 1) (b2_t hmi) ?_
      refine JJ_if_eq (tgt := 32) dX11_balls_26 (by decide) (fun c9 => absurd c9 (by decide)) (fun _ => ?_)
      refine JJ_bipush (v := (-11)) dX11_balls_29 rfl ?_
      refine JJ_iret dX11_balls_31 rfl ?_
      exact cI_q rfl hA hC
    · skip
      obtain ⟨⟨N, hN4, eN, hMN, hMI⟩, hsor, hsr⟩ := sh_there hk hg2 hA.2.2.2.2.1 h16
      by_cases hN : 4 < N
      · skip
        have e0 : zr_balls A (nI k) what = -2 := (if_neg (fun z => z ⟨hs0, hpl⟩)).trans ((if_neg (by rw [hik]; exact h16)).trans (if_pos (by rw [hik, eN]; exact nI_lt1 (k := 4) hN (by omega))))
        rw [e0]
        refine KK_of2 [(0, .ref x), (1, .int (nI k)), (2, .int what)] (by decide +kernel) (Nat.le_of_ble_eq_true rfl) rfl ?_
        refine JJ_aload_n dX11_balls_0 rfl rfl ?_
        refine JJ_iload_n dX11_balls_1 rfl rfl ?_
        refine JJ_callV (rest := []) (congrArg Prod.fst (hC.sh (t := 0) (k := 12) (m := 0) (by decide))) rfl rfl (kc_sheetAt hk hC hX) (by omega) mi_X11_sheetAt lk_X11_196 rfl (Nat.le_of_ble_eq_true rfl) rfl rfl dX11_balls_2 ?_
        intro v10 μ11 h12
        obtain ⟨rfl, rfl⟩ := h12
        refine JJ_r1 ?_
        refine JJ_astore_n (lv' := [(3, .ref (x + 67 + 2 * k)), (0, .ref x), (1, .int (nI k)), (2, .int what)]) dX11_balls_5 rfl (by decide) rfl ?_
        refine JJ_aload_n dX11_balls_6 rfl rfl ?_
        refine JJ_ifnullR dX11_balls_7 ?_
        refine JJ_iload_n dX11_balls_10 rfl rfl ?_
        refine JJ_if_lt (tgt := 19) dX11_balls_11 (by decide) (fun c13 => absurd c13 (fun y => by rw [i_lt] at y; omega)) (fun _ => ?_)
        refine JJ_iload_n dX11_balls_14 rfl rfl ?_
        refine JJ_iconst (v := 1) dX11_balls_15 rfl ?_
        refine JJ_icmp_le (tgt := 22) dX11_balls_16 (by decide) (fun _ => ?_) (fun c14 => absurd (i_le.mpr (by omega)) c14)
        refine JJ_aload_n dX11_balls_22 rfl rfl ?_
        refine JJ_callV (rest := []) (congrArg Prod.fst (hC.2.2.2.2 k hk).1) rfl rfl (kc_isMissing hk hC hX) (by omega) mi_X7_isMissing lk_X11_221 rfl (Nat.le_of_ble_eq_true rfl) rfl rfl dX11_balls_23 ?_
        intro v15 μ16 h17
        obtain ⟨rfl, rfl⟩ := h17
        refine JJ_r1 ?_
        refine JJ_eqi (x2 := 0) (b2_f (by rw [hsor]; exact so_n1 hsr)) ?_
        refine JJ_if_eq (tgt := 32) dX11_balls_26 (by decide) (fun _ => ?_) (fun c18 => absurd (by decide) c18)
        refine JJ_aload_n dX11_balls_32 rfl rfl ?_
        refine JJ_geti (v := nI N) (cis := [7]) (k := 2) fa_X11_225 (by decide) (congrArg Prod.fst (hC.2.2.2.2 k hk).1) rfl (hX.1 _ _ (by omega) (by omega) (by omega)) hMN dX11_balls_33 ?_
        refine JJ_iconst (v := 4) dX11_balls_36 rfl ?_
        refine JJ_icmp_le (tgt := 43) dX11_balls_37 (by decide) (fun c19 => absurd c19 (Int32.not_le.mpr (nI_lt1 (k := 4) hN (by omega)))) (fun _ => ?_)
        refine JJ_bipush (v := (-2)) dX11_balls_40 rfl ?_
        refine JJ_iret dX11_balls_42 rfl ?_
        exact cI_q rfl hA hC
      · skip
        have hzN : zN A k = N := by show i2n _ = N; rw [eN]; exact nI_clamp (by omega)
        obtain ⟨l, hl⟩ : ∃ l, l = zgo k N A 0 (nI 0) := ⟨_, rfl⟩
        have hll : l.length < 100000 := by
          have := zgo_len (s := k) N 0 (nI 0) A (by omega)
          rw [← hl] at this
          have h2 : (6 : Nat) ^ N ≤ 6 ^ 4 := Nat.pow_le_pow_right (by decide) (by omega)
          omega
        have hfz := fz0 hll
        have e0 : zr_balls A (nI k) what = if what = 0 then nI l.length else l.headD (-1) := (if_neg (fun z => z ⟨hs0, hpl⟩)).trans ((if_neg (by rw [hik]; exact h16)).trans ((if_neg (by rw [hik, eN]; exact Int32.not_lt.mpr (nI_le (b := 4) (by omega) (by omega)))).trans (by rw [hik, hzN, show zgo k N A 0 0 = l from hl.symm, hfz])))
        rw [e0]
        refine KK_of2 [(0, .ref x), (1, .int (nI k)), (2, .int what)] (by decide +kernel) (Nat.le_of_ble_eq_true rfl) rfl ?_
        refine JJ_aload_n dX11_balls_0 rfl rfl ?_
        refine JJ_iload_n dX11_balls_1 rfl rfl ?_
        refine JJ_callV (rest := []) (congrArg Prod.fst (hC.sh (t := 0) (k := 12) (m := 0) (by decide))) rfl rfl (kc_sheetAt hk hC hX) (by omega) mi_X11_sheetAt lk_X11_196 rfl (Nat.le_of_ble_eq_true rfl) rfl rfl dX11_balls_2 ?_
        intro v20 μ21 h22
        obtain ⟨rfl, rfl⟩ := h22
        refine JJ_r1 ?_
        refine JJ_astore_n (lv' := [(3, .ref (x + 67 + 2 * k)), (0, .ref x), (1, .int (nI k)), (2, .int what)]) dX11_balls_5 rfl (by decide) rfl ?_
        refine JJ_aload_n dX11_balls_6 rfl rfl ?_
        refine JJ_ifnullR dX11_balls_7 ?_
        refine JJ_iload_n dX11_balls_10 rfl rfl ?_
        refine JJ_if_lt (tgt := 19) dX11_balls_11 (by decide) (fun c23 => absurd c23 (fun y => by rw [i_lt] at y; omega)) (fun _ => ?_)
        refine JJ_iload_n dX11_balls_14 rfl rfl ?_
        refine JJ_iconst (v := 1) dX11_balls_15 rfl ?_
        refine JJ_icmp_le (tgt := 22) dX11_balls_16 (by decide) (fun _ => ?_) (fun c24 => absurd (i_le.mpr (by omega)) c24)
        refine JJ_aload_n dX11_balls_22 rfl rfl ?_
        refine JJ_callV (rest := []) (congrArg Prod.fst (hC.2.2.2.2 k hk).1) rfl rfl (kc_isMissing hk hC hX) (by omega) mi_X7_isMissing lk_X11_221 rfl (Nat.le_of_ble_eq_true rfl) rfl rfl dX11_balls_23 ?_
        intro v25 μ26 h27
        obtain ⟨rfl, rfl⟩ := h27
        refine JJ_r1 ?_
        refine JJ_eqi (x2 := 0) (b2_f (by rw [hsor]; exact so_n1 hsr)) ?_
        refine JJ_if_eq (tgt := 32) dX11_balls_26 (by decide) (fun _ => ?_) (fun c28 => absurd (by decide) c28)
        refine JJ_aload_n dX11_balls_32 rfl rfl ?_
        refine JJ_geti (v := nI N) (cis := [7]) (k := 2) fa_X11_225 (by decide) (congrArg Prod.fst (hC.2.2.2.2 k hk).1) rfl (hX.1 _ _ (by omega) (by omega) (by omega)) hMN dX11_balls_33 ?_
        refine JJ_iconst (v := 4) dX11_balls_36 rfl ?_
        refine JJ_icmp_le (tgt := 43) dX11_balls_37 (by decide) (fun _ => ?_) (fun c29 => absurd (nI_le (b := 4) (by omega) (by omega)) c29)
        refine JJ_aload_n dX11_balls_43 rfl rfl ?_
        refine JJ_iconst (v := (-1)) dX11_balls_44 rfl ?_
        refine JJ_puti (cis := [11]) (k := 18) fa_X11_75 (by decide) (congrArg Prod.fst (hC.sh (t := 0) (k := 12) (m := 0) (by decide))) rfl (fun r hr => by cases hr; exact ⟨rfl, by decide +kernel⟩) dX11_balls_45 (fun M30 hM31 => ?_)
        have hM1 : ∀ b k, ¬ CQ x b k → M30 b k = M b k := fun b k z => rd_n hM31 (fun y => z (by unfold CQ; omega)) rfl
        have hA1 : cABS x n S P M30 A := hA.keep h6 (fun b k _ _ z => hM1 b k z) (fun _ _ _ _ _ => rfl) (fun _ _ => trivial)
        have h18a : M30 x 18 = -1 := rd_s hM31
        refine JJ_aload_n dX11_balls_48 rfl rfl ?_
        refine JJ_aload_n dX11_balls_49 rfl rfl ?_
        refine JJ_getr (q := x + 40) (cis := [11]) (k := 5) fa_X11_97 (by decide) (congrArg Prod.fst (hC.sh (t := 0) (k := 12) (m := 0) (by decide))) rfl (hC.rf (t := 0) (s := 5) (u := 40) (by decide)) dX11_balls_50 ?_
        refine JJ_aload_n dX11_balls_53 rfl rfl ?_
        refine JJ_iconst (v := 0) dX11_balls_54 rfl ?_
        refine JJ_eqi (x2 := nI 0) rfl ?_
        refine JJ_iconst (v := 0) dX11_balls_55 rfl ?_
        refine JJ_eqi (x2 := nI 0) rfl ?_
        refine JJ_callV (rest := []) (congrArg Prod.fst (hC.sh (t := 0) (k := 12) (m := 0) (by decide))) rfl rfl (kc_rowsBy hk (by omega) hX N 0 (x + 40) 0 A M30 L P (by omega) (by decide) hA1.1 (by omega) hA1.2.2.1 hA1.2.2.2.1 hg2.r3 ((hM1 _ _ (by unfold CQ; omega)).trans hMN) (fun j hj => (hM1 _ _ (by unfold CQ; omega)).trans (hMI j hj)) hC) (by omega) mi_X11_rowsBy lk_X11_226 rfl (Nat.le_of_ble_eq_true rfl) rfl rfl dX11_balls_56 ?_
        intro v32 μ33 h34
        obtain ⟨rfl, Mc, Lc, Pc, rfl, h18, hMc, hPc⟩ := h34
        refine JJ_r1 ?_
        refine JJ_eqi (x2 := nI l.length) (by rw [hl]) ?_
        rw [h18a, ← hl] at h18
        have h18b : Mc x 18 = l.headD (-1) := h18.trans (if_pos rfl)
        refine JJ_istore (lv' := [(4, .int (nI l.length)), (3, .ref (x + 67 + 2 * k)), (0, .ref x), (1, .int (nI k)), (2, .int what)]) dX11_balls_59 (by decide) rfl ?_
        refine JJ_iload_n dX11_balls_61 rfl rfl ?_
        refine JJ_if_ne (tgt := 70) dX11_balls_62 (by decide) (fun c35 => ?_) (fun c35 => ?_)
        · skip
          refine JJ_aload_n dX11_balls_70 rfl rfl ?_
          refine JJ_geti (v := l.headD (-1)) (cis := [11]) (k := 18) fa_X11_75 (by decide) (congrArg Prod.fst (hC.sh (t := 0) (k := 12) (m := 0) (by decide))) rfl (hX.1 _ _ (by omega) (by omega) (by omega)) h18b dX11_balls_71 ?_
          refine JJ_iret dX11_balls_74 rfl ?_
          exact cI_v (by rw [if_neg c35]) hA h6 hC (fun b k z => (hMc b k (fun y => z (by unfold RoD at y; unfold CQ; omega))).trans (hM1 b k z)) (fun b k z => hPc b k (fun y => z (by unfold RoP at y; unfold CQP; omega))) (fun _ _ => trivial)
        · skip
          refine JJ_iload dX11_balls_65 rfl ?_
          refine JJ_goto (tgt := 74) dX11_balls_67 (by decide) ?_
          refine JJ_iret dX11_balls_74 rfl ?_
          exact cI_v (by rw [if_pos c35]) hA h6 hC (fun b k z => (hMc b k (fun y => z (by unfold RoD at y; unfold CQ; omega))).trans (hM1 b k z)) (fun b k z => hPc b k (fun y => z (by unfold RoP at y; unfold CQP; omega))) (fun _ _ => trivial)
  · skip
    have e0 : zr_balls A s what = -2 := if_pos hk1
    rw [e0]
    by_cases hs0 : isSh s
    · skip
      obtain ⟨k, hk3, rfl⟩ := n_of (m := 3) (by decide) hs0
      have hk : k < 4 := by omega
      refine KK_of2 [(0, .ref x), (1, .int (nI k)), (2, .int what)] (by decide +kernel) (Nat.le_of_ble_eq_true rfl) rfl ?_
      refine JJ_aload_n dX11_balls_0 rfl rfl ?_
      refine JJ_iload_n dX11_balls_1 rfl rfl ?_
      refine JJ_callV (rest := []) (congrArg Prod.fst (hC.sh (t := 0) (k := 12) (m := 0) (by decide))) rfl rfl (kc_sheetAt hk hC hX) (by omega) mi_X11_sheetAt lk_X11_196 rfl (Nat.le_of_ble_eq_true rfl) rfl rfl dX11_balls_2 ?_
      intro v36 μ37 h38
      obtain ⟨rfl, rfl⟩ := h38
      refine JJ_r1 ?_
      refine JJ_astore_n (lv' := [(3, .ref (x + 67 + 2 * k)), (0, .ref x), (1, .int (nI k)), (2, .int what)]) dX11_balls_5 rfl (by decide) rfl ?_
      refine JJ_aload_n dX11_balls_6 rfl rfl ?_
      refine JJ_ifnullR dX11_balls_7 ?_
      refine JJ_iload_n dX11_balls_10 rfl rfl ?_
      refine JJ_if_lt (tgt := 19) dX11_balls_11 (by decide) (fun c39 => ?_) (fun c39 => ?_)
      · skip
        refine JJ_bipush (v := (-2)) dX11_balls_19 rfl ?_
        refine JJ_iret dX11_balls_21 rfl ?_
        exact cI_q rfl hA hC
      · skip
        refine JJ_iload_n dX11_balls_14 rfl rfl ?_
        refine JJ_iconst (v := 1) dX11_balls_15 rfl ?_
        refine JJ_icmp_le (tgt := 22) dX11_balls_16 (by decide) (fun c40 => absurd c40 (fun y => hk1 ⟨hs0, show 0 ≤ what.toInt ∧ what.toInt ≤ 1 from ⟨by have y1 := c39; rw [i_lt] at y1; omega, by rw [i_le] at y; omega⟩⟩)) (fun _ => ?_)
        refine JJ_bipush (v := (-2)) dX11_balls_19 rfl ?_
        refine JJ_iret dX11_balls_21 rfl ?_
        exact cI_q rfl hA hC
    · skip
      refine KK_of2 [(0, .ref x), (1, .int s), (2, .int what)] (by decide +kernel) (Nat.le_of_ble_eq_true rfl) rfl ?_
      refine JJ_aload_n dX11_balls_0 rfl rfl ?_
      refine JJ_iload_n dX11_balls_1 rfl rfl ?_
      refine JJ_callV (rest := []) (congrArg Prod.fst (hC.sh (t := 0) (k := 12) (m := 0) (by decide))) rfl rfl (kc_sheetNo hs0 hC hX) (by omega) mi_X11_sheetAt lk_X11_196 rfl (Nat.le_of_ble_eq_true rfl) rfl rfl dX11_balls_2 ?_
      intro v41 μ42 h43
      obtain ⟨rfl, rfl⟩ := h43
      refine JJ_r1 ?_
      refine JJ_astore_nN (lv' := [(3, .null), (0, .ref x), (1, .int s), (2, .int what)]) dX11_balls_5 rfl (by decide) rfl ?_
      refine JJ_aload_nN dX11_balls_6 rfl rfl ?_
      refine JJ_ifnullN (tgt := 19) dX11_balls_7 (by decide) ?_
      refine JJ_bipush (v := (-2)) dX11_balls_19 rfl ?_
      refine JJ_iret dX11_balls_21 rfl ?_
      exact cI_q rfl hA hC
end C27
