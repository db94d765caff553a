set_option maxHeartbeats 4000000 in
set_option maxRecDepth 100000 in
/-- x >>> 4, unsigned -/
def zu4 (x : Int32) : Int32 := (x.toUInt32 >>> ((4 : Int32).toUInt32 &&& Int32.toUInt32 31)).toInt32
theorem zn_ix {f : Nat → Int32} {n : Nat} (h : n < 2 ^ 31) : f (nI n).toNatClampNeg = f n := by rw [nI_clamp h]
theorem zn_lt {a b : Nat} (h : ¬ nI b ≤ nI a) (ha : a < 2 ^ 31) : a < b := Nat.lt_of_not_le (fun q => h (nI_le q ha))
theorem zn_ge {a b : Nat} (h : nI b ≤ nI a) (ha : a < 2 ^ 31) (hb : b < 2 ^ 31) : b ≤ a := (nI_leI hb ha).mp h
theorem zn_eq {a b : Nat} (h : nI a = nI b) (ha : a < 2 ^ 31) (hb : b < 2 ^ 31) : a = b := (nI_eq ha hb).mp h

set_option maxHeartbeats 4000000 in
set_option maxRecDepth 100000 in
theorem zn_or (a b : Nat) : nI a ||| nI b = nI (a ||| b) := by
  apply Int32.toBitVec_inj.mp
  show BitVec.ofNat 32 a ||| BitVec.ofNat 32 b = BitVec.ofNat 32 (a ||| b)
  apply BitVec.eq_of_getLsbD_eq
  intro i hi
  simp [BitVec.getLsbD_or, BitVec.getLsbD_ofNat, Nat.testBit_or, hi]
theorem zn_or4 (n : Nat) : (4 : Int32) ||| nI (n * 2 ^ 4) = nI (n * 2 ^ 4 + 4) := by
  have h := zn_or 4 (n * 2 ^ 4)
  have e : 4 ||| n * 2 ^ 4 = n * 2 ^ 4 + 4 := by
    rw [Nat.or_comm, Nat.mul_comm n]
    exact (Nat.two_pow_add_eq_or_of_lt (by decide) n).symm
  rw [e] at h
  exact h
theorem zu4_nI {m : Nat} (h : m < 2 ^ 32) : zu4 (nI m) = nI (m / 16) := pk_ushrN h 4 4 (by decide)
theorem zn_kept {fc fr : Nat → Int32} {k f n : Nat} (hn : n < 2 ^ 20) : zu4 (va_cpy fr (upd fc k (nI (n * 2 ^ 4 + 4))) f (k + 1) n k) = nI n := by
  rw [pk_cpy_out (by omega), pk_us, zu4_nI (by omega)]
  congr 1
  omega
theorem zn_keptO {fc fr : Nat → Int32} {k f n : Nat} {x : Int32} : ∀ j : Nat, (j < k ∨ k + n + 1 ≤ j) → va_cpy fr (upd fc k x) f (k + 1) n j = fc j := by
  intro j hj
  rw [pk_cpy_out (by omega), pk_un (by omega)]
theorem zn_keptI {fc fr : Nat → Int32} {k f n : Nat} {x : Int32} : ∀ j : Nat, j < n → va_cpy fr (upd fc k x) f (k + 1) n (k + 1 + j) = fr (f + j) := by
  intro j hj
  rw [pk_cpy_in (by omega) (by omega)]
  congr 1
  omega

set_option maxHeartbeats 4000000 in
set_option maxRecDepth 100000 in
/-- stopOf: the place of the next blank, or the end -/
theorem kX6_stopOf {E : zEn} (hE : zOk E) (l : Launch) (D : va_G) (cA : Nat → ClassId) (N : Nat) (len : List Nat) (byt : List (List Int32)) (K : Nat → Nat) (V : Nat → Nat) (i : Nat) (f : Nat) (hs : zSt E N len byt K V) (hi : i < N) (hf : f < 2 ^ 30) : zMi E l yX6_stopOf zwX6_stopOf ({ frames := 4, cells := 0, slots := 0, locals := 85 }) D vwCl (zT cA) [.ref (K i), .int (nI f)] [] (S := Nat) (fun (r : Int32) (u : Nat) => (r = nI u) ∧ (f ≤ u) ∧ (u ≤ max f (len.getD i 0))) (fun (u : Nat) => []) := by
  refine zz_enteri (cc := cX6_stopOf) (lv := [(0, .ref (K i)), (1, .int (nI f))]) hE 3 (by decide) rfl (Nat.le_of_ble_eq_true rfl) rfl ?_
  intro p e s m args below meth c X hr hin
  refine zz_iload_n X 1 dX6_stopOf_0 rfl rfl ?_
  refine zz_istore_n X [(2, .int (nI f)), (0, .ref (K i)), (1, .int (nI f))] dX6_stopOf_1 rfl (by decide) rfl ?_
  refine zz_ind (α := Nat) (fun zv => max f (len.getD i 0) - zv) (fun zv => f ≤ zv ∧ zv ≤ max f (len.getD i 0)) (fun zv => []) (fun zv => [(2, .int (nI zv)), (0, .ref (K i)), (1, .int (nI f))]) (fun zv => []) (f) (⟨Nat.le_refl _, Nat.le_max_left _ _⟩) rfl rfl rfl ?_
  intro zv hI_2 ih_2
  obtain ⟨j, rfl⟩ : ∃ z, z = zv := ⟨_, rfl⟩
  have hI_2 : f ≤ j ∧ j ≤ max f (len.getD i 0) := hI_2
  refine zz_at (ws' := []) (lv' := [(2, .int (nI j)), (0, .ref (K i)), (1, .int (nI f))]) (st' := []) rfl rfl rfl ?_
  have hL := hs.2.2.2 i hi
  have hj2 : j < 2 ^ 31 := by omega
  refine zz_iload_n X 0 dX6_stopOf_2 rfl rfl ?_
  refine zz_aload_n X 1 dX6_stopOf_3 rfl rfl ?_
  refine zz_callTi X (rest := [.int (nI j)]) (As := []) (kJ0_length hE l D cA N len byt K V i hs hi) 0 (zgV zm_240 zm_241 zm_242 zm_141 zm_239) rfl (by decide +kernel) [] [] [] rfl rfl (by decide) rfl (by decide) (by decide) ⟨Nat.le_of_ble_eq_true rfl, Nat.le_of_ble_eq_true rfl⟩ (zz_recvS X hs hi) rfl rfl rfl (Nat.le_of_ble_eq_true rfl) dX6_stopOf_4 (Nat.le_of_ble_eq_true rfl) (Nat.le_of_ble_eq_true rfl) (fun r1 _ hw2 => ?_)
  obtain rfl := hw2
  refine zz_show (ws' := []) rfl ?_
  refine zz_icmp_ge X 26 dX6_stopOf_7 (by decide) (fun hjc => ?_) (fun hjc => ?_)
  · skip
    refine zz_iload_n X 0 dX6_stopOf_26 rfl rfl ?_
    exact zz_iret X hr (j) [] (by decide) rfl rfl (Nat.le_of_ble_eq_true rfl) (Nat.le_of_ble_eq_true rfl) (⟨rfl, hI_2.1, hI_2.2⟩) dX6_stopOf_27
  · skip
    have hjl : j < (len.getD i 0) := Nat.lt_of_not_le (fun h => hjc (nI_le h (by omega)))
    refine zz_aload_n X 1 dX6_stopOf_10 rfl rfl ?_
    refine zz_iload_n X 0 dX6_stopOf_11 rfl rfl ?_
    refine zz_callTi X (rest := []) (As := [.int (nI j)]) (kJ0_charAt hE l D cA N len byt K V i j hs hi hjl) 1 (zgV zm_247 zm_139 zm_140 zm_141 zm_137) rfl (by decide +kernel) [] [] [] rfl rfl (by decide) rfl (by decide) (by decide) ⟨Nat.le_of_ble_eq_true rfl, Nat.le_of_ble_eq_true rfl⟩ (zz_recvS X hs hi) rfl rfl rfl (Nat.le_of_ble_eq_true rfl) dX6_stopOf_12 (Nat.le_of_ble_eq_true rfl) (Nat.le_of_ble_eq_true rfl) (fun r3 _ hw4 => ?_)
    obtain rfl := hw4
    refine zz_show (ws' := []) rfl ?_
    refine zz_bipush X 32 dX6_stopOf_15 rfl ?_
    refine zz_icmp_eq X 26 dX6_stopOf_17 (by decide) (fun c17 => ?_) (fun c17 => ?_)
    · skip
      refine zz_iload_n X 0 dX6_stopOf_26 rfl rfl ?_
      exact zz_iret X hr (j) [] (by decide) rfl rfl (Nat.le_of_ble_eq_true rfl) (Nat.le_of_ble_eq_true rfl) (⟨rfl, hI_2.1, hI_2.2⟩) dX6_stopOf_27
    · skip
      refine zz_iinc X 0 ((nI (j + 1))) [(2, .int (nI (j + 1))), (0, .ref (K i)), (1, .int (nI f))] dX6_stopOf_20 rfl (nI_1 j) (by decide) rfl ?_
      refine zz_goto X 2 dX6_stopOf_23 (by decide) ?_
      exact ih_2 (j + 1) (show f ≤ (j + 1) ∧ (j + 1) ≤ max f (len.getD i 0) from ⟨by omega, by omega⟩) (show (max f (len.getD i 0) - (j + 1)) < (max f (len.getD i 0) - j) from (by omega))

set_option maxHeartbeats 4000000 in
set_option maxRecDepth 100000 in
/-- same: no index is out of its row -/
theorem kX6_same {E : zEn} (hE : zOk E) (l : Launch) (D : va_G) (cA : Nat → ClassId) (h0 : Nat) (hc : Nat) (ha : Nat) (hz : Nat) (used : Int32) (kept : Int32) (top : Int32) (end_ : Int32) (full : Int32) (n0 : Nat) (tb : Nat) (pa : Nat) (nm : Nat) (ch : Nat) (sb : Nat) (nodes : Int32) (wd : Nat) (bu : Nat) (ki : Nat) (ar : Nat) (le : Nat) (fi : Int32) (fd : Int32) (fs : Int32) (fb : Int32) (fc : Nat → Int32) (sr : Nat) (sl : Nat) (fr : Nat → Int32) (h : Nat) (f : Nat) (n : Nat) (w : Nat) (hw : zu4 (fc h) = nI w) (hb : h + 1 + w ≤ 886000) (hf : f + n ≤ sl) (hsl : sl < 2 ^ 31) : zMi E l yX6_same zwX6_same ({ frames := 0, cells := 0, slots := 0, locals := 0 }) D vwCl (zT cA) [.ref n0, .int (nI h), .ref sr, .int (nI f), .int (nI n)] [(n0, .inr (6, [.ref h0, .ref tb, .ref pa, .ref nm, .ref ch, .ref sb, .int nodes, .ref wd, .ref bu, .ref ki, .ref ar, .ref le, .int fi, .int fd, .int fs, .int fb])), (h0, .inr (4, [.ref hc, .ref ha, .ref hz, .int used, .int kept, .int top, .int end_, .int full])), (hc, .inl (cA 1, 886000, .inl fc)), (sr, .inl (cA 1, sl, .inl fr))] (S := Unit) (fun (r : Int32) (u : Unit) => (r = 0 ∨ r = 1)) (fun (u : Unit) => [(n0, .inr (6, [.ref h0, .ref tb, .ref pa, .ref nm, .ref ch, .ref sb, .int nodes, .ref wd, .ref bu, .ref ki, .ref ar, .ref le, .int fi, .int fd, .int fs, .int fb])), (h0, .inr (4, [.ref hc, .ref ha, .ref hz, .int used, .int kept, .int top, .int end_, .int full])), (hc, .inl (cA 1, 886000, .inl fc)), (sr, .inl (cA 1, sl, .inl fr))]) := by
  refine zz_enterz (cc := cX6_same) (lv := [(0, .ref n0), (1, .int (nI h)), (2, .ref sr), (3, .int (nI f)), (4, .int (nI n))]) hE 6 (by decide) rfl (Nat.le_of_ble_eq_true rfl) rfl ?_
  intro p e s m args below meth c X hr hin
  refine zz_aload_n X 0 dX6_same_0 rfl rfl ?_
  refine zz_get X 0 0 rfl rfl (by decide) (fun w h => List.mem_cons_of_mem _ (zf_X6 w h)) rfl (List.mem_cons_of_mem _ zm_172) rfl dX6_same_1 ?_
  refine zz_get X 1 0 rfl rfl (by decide) (fun w h => List.mem_cons_of_mem _ (zf_X4 w h)) rfl (List.mem_cons_of_mem _ zm_173) rfl dX6_same_4 ?_
  refine zz_iload_n X 1 dX6_same_7 rfl rfl ?_
  refine zz_iald X 2 1 rfl rfl (vp_in_nI (by omega) (by decide)) ((fc h)) (zn_ix (by omega)) dX6_same_8 ?_
  refine zz_iconst X 4 dX6_same_9 rfl ?_
  refine zz_iushr X ((nI w)) dX6_same_10 hw ?_
  refine zz_iload X 4 dX6_same_11 rfl ?_
  refine zz_icmp_eq X 18 dX6_same_13 (by decide) (fun c13 => ?_) (fun c13 => ?_)
  · skip
    have hwn : w = n := zn_eq c13 (by omega) (by omega)
    refine zz_iconst X 0 dX6_same_18 rfl ?_
    refine zz_istore X [(5, .int 0), (0, .ref n0), (1, .int (nI h)), (2, .ref sr), (3, .int (nI f)), (4, .int (nI n))] dX6_same_19 (by decide) rfl ?_
    refine zz_ind (α := Nat) (fun zv => n - zv) (fun zv => zv ≤ n) (fun zv => [(n0, .inr (6, [.ref h0, .ref tb, .ref pa, .ref nm, .ref ch, .ref sb, .int nodes, .ref wd, .ref bu, .ref ki, .ref ar, .ref le, .int fi, .int fd, .int fs, .int fb])), (h0, .inr (4, [.ref hc, .ref ha, .ref hz, .int used, .int kept, .int top, .int end_, .int full])), (hc, .inl (cA 1, 886000, .inl fc)), (sr, .inl (cA 1, sl, .inl fr))]) (fun zv => [(5, .int (nI zv)), (0, .ref n0), (1, .int (nI h)), (2, .ref sr), (3, .int (nI f)), (4, .int (nI n))]) (fun zv => []) (0) (Nat.zero_le _) rfl rfl rfl ?_
    intro zv hI_21 ih_21
    obtain ⟨j, rfl⟩ : ∃ z, z = zv := ⟨_, rfl⟩
    have hI_21 : j ≤ n := hI_21
    refine zz_at (ws' := [(n0, .inr (6, [.ref h0, .ref tb, .ref pa, .ref nm, .ref ch, .ref sb, .int nodes, .ref wd, .ref bu, .ref ki, .ref ar, .ref le, .int fi, .int fd, .int fs, .int fb])), (h0, .inr (4, [.ref hc, .ref ha, .ref hz, .int used, .int kept, .int top, .int end_, .int full])), (hc, .inl (cA 1, 886000, .inl fc)), (sr, .inl (cA 1, sl, .inl fr))]) (lv' := [(5, .int (nI j)), (0, .ref n0), (1, .int (nI h)), (2, .ref sr), (3, .int (nI f)), (4, .int (nI n))]) (st' := []) rfl rfl rfl ?_
    refine zz_iload X 0 dX6_same_21 rfl ?_
    refine zz_iload X 5 dX6_same_23 rfl ?_
    refine zz_icmp_ge X 59 dX6_same_25 (by decide) (fun c25 => ?_) (fun c25 => ?_)
    · skip
      refine zz_iconst X 1 dX6_same_59 rfl ?_
      exact zz_zret X hr (by decide) (()) [0, 1, 2, 3] (by decide) rfl rfl (Nat.le_of_ble_eq_true rfl) (Nat.le_of_ble_eq_true rfl) (Or.inr rfl) dX6_same_60
    · skip
      have hjn : j < n := zn_lt c25 (by omega)
      refine zz_aload_n X 1 dX6_same_28 rfl rfl ?_
      refine zz_get X 0 0 rfl rfl (by decide) (fun w h => List.mem_cons_of_mem _ (zf_X6 w h)) rfl (List.mem_cons_of_mem _ zm_172) rfl dX6_same_29 ?_
      refine zz_get X 1 0 rfl rfl (by decide) (fun w h => List.mem_cons_of_mem _ (zf_X4 w h)) rfl (List.mem_cons_of_mem _ zm_173) rfl dX6_same_32 ?_
      refine zz_iload_n X 2 dX6_same_35 rfl rfl ?_
      refine zz_iconst X 1 dX6_same_36 rfl ?_
      refine zz_iadd X ((nI (h + 1))) dX6_same_37 (nI_1 h) ?_
      refine zz_iload X 0 dX6_same_38 rfl ?_
      refine zz_iadd X ((nI (h + 1 + j))) dX6_same_40 (nI_add _ _) ?_
      refine zz_iald X 2 1 rfl rfl (vp_in_nI (by omega) (by decide)) ((fc (h + 1 + j))) (zn_ix (by omega)) dX6_same_41 ?_
      refine zz_aload_n X 3 dX6_same_42 rfl rfl ?_
      refine zz_iload_n X 4 dX6_same_43 rfl rfl ?_
      refine zz_iload X 0 dX6_same_44 rfl ?_
      refine zz_iadd X ((nI (f + j))) dX6_same_46 (nI_add _ _) ?_
      refine zz_iald X 3 1 rfl rfl (vp_in_nI (by omega) (by omega)) ((fr (f + j))) (zn_ix (by omega)) dX6_same_47 ?_
      refine zz_icmp_eq X 53 dX6_same_48 (by decide) (fun c48 => ?_) (fun c48 => ?_)
      · skip
        refine zz_iinc X 0 ((nI (j + 1))) [(5, .int (nI (j + 1))), (0, .ref n0), (1, .int (nI h)), (2, .ref sr), (3, .int (nI f)), (4, .int (nI n))] dX6_same_53 rfl (nI_1 j) (by decide) rfl ?_
        refine zz_goto X 21 dX6_same_56 (by decide) ?_
        exact ih_21 (j + 1) (show (j + 1) ≤ n from (by omega)) (show (n - (j + 1)) < (n - j) from (by omega))
      · skip
        refine zz_iconst X 0 dX6_same_51 rfl ?_
        exact zz_zret X hr (by decide) (()) [0, 1, 2, 3] (by decide) rfl rfl (Nat.le_of_ble_eq_true rfl) (Nat.le_of_ble_eq_true rfl) (Or.inl rfl) dX6_same_52
  · skip
    refine zz_iconst X 0 dX6_same_16 rfl ?_
    exact zz_zret X hr (by decide) (()) [0, 1, 2, 3] (by decide) rfl rfl (Nat.le_of_ble_eq_true rfl) (Nat.le_of_ble_eq_true rfl) (Or.inl rfl) dX6_same_17

set_option maxHeartbeats 4000000 in
set_option maxRecDepth 100000 in
/-- keepString: the bytes are kept from kept on, where there is room -/
theorem kX4_keepString {E : zEn} (hE : zOk E) (l : Launch) (D : va_G) (cA : Nat → ClassId) (h0 : Nat) (hc : Nat) (ha : Nat) (hz : Nat) (used : Int32) (top : Int32) (end_ : Int32) (full : Int32) (k : Nat) (fc : Nat → Int32) (sr : Nat) (sl : Nat) (fr : Nat → Int32) (f : Nat) (n : Nat) (hk : k ≤ 60000) (hf : f + n ≤ sl) (hsl : sl < 2 ^ 20) : zMi E l yX4_keepString zwX4_keepString ({ frames := 1, cells := 0, slots := 0, locals := 60 }) D vwCl (zT cA) [.ref h0, .ref sr, .int (nI f), .int (nI n)] [(h0, .inr (4, [.ref hc, .ref ha, .ref hz, .int used, .int (nI k), .int top, .int end_, .int full])), (hc, .inl (cA 1, 886000, .inl fc)), (sr, .inl (cA 1, sl, .inl fr))] (S := Nat × (Nat → Int32)) (fun (r : Int32) (u : Nat × (Nat → Int32)) => ((r = 1 ∧ u.1 = k ∧ u.2 = fc) ∨ (r = nI k ∧ u.1 = k + n + 1 ∧ k + n + 1 ≤ 60000 ∧ zu4 (u.2 k) = nI n ∧ (∀ j : Nat, (j < k ∨ k + n + 1 ≤ j) → u.2 j = fc j) ∧ ∀ j : Nat, j < n → u.2 (k + 1 + j) = fr (f + j)))) (fun (u : Nat × (Nat → Int32)) => [(h0, .inr (4, [.ref hc, .ref ha, .ref hz, .int used, .int (nI u.1), .int top, .int end_, .int full])), (hc, .inl (cA 1, 886000, .inl u.2)), (sr, .inl (cA 1, sl, .inl fr))]) := by
  refine zz_enteri (cc := cX4_keepString) (lv := [(0, .ref h0), (1, .ref sr), (2, .int (nI f)), (3, .int (nI n))]) hE 5 (by decide) rfl (Nat.le_of_ble_eq_true rfl) rfl ?_
  intro p e s m args below meth c X hr hin
  refine zz_aload_n X 0 dX4_keepString_0 rfl rfl ?_
  refine zz_get X 0 4 rfl rfl (by decide) (fun w h => List.mem_cons_of_mem _ (zf_X4 w h)) rfl (List.mem_cons_of_mem _ zm_179) rfl dX4_keepString_1 ?_
  refine zz_iload_n X 3 dX4_keepString_4 rfl rfl ?_
  refine zz_iadd X ((nI (k + n))) dX4_keepString_5 (nI_add _ _) ?_
  refine zz_iconst X 1 dX4_keepString_6 rfl ?_
  refine zz_iadd X ((nI (k + n + 1))) dX4_keepString_7 (nI_1 _) ?_
  refine zz_ldc X (List.mem_cons_of_mem _ zm_180) dX4_keepString_8 ?_
  refine zz_icmp_le X 15 dX4_keepString_10 (by decide) (fun c10 => ?_) (fun c10 => ?_)
  · skip
    have hle : k + n + 1 ≤ 60000 := zn_ge (a := 60000) c10 (by decide) (by omega)
    refine zz_aload_n X 0 dX4_keepString_15 rfl rfl ?_
    refine zz_get X 0 4 rfl rfl (by decide) (fun w h => List.mem_cons_of_mem _ (zf_X4 w h)) rfl (List.mem_cons_of_mem _ zm_179) rfl dX4_keepString_16 ?_
    refine zz_istore X [(4, .int (nI k)), (0, .ref h0), (1, .ref sr), (2, .int (nI f)), (3, .int (nI n))] dX4_keepString_19 (by decide) rfl ?_
    refine zz_aload_n X 1 dX4_keepString_21 rfl rfl ?_
    refine zz_dup X dX4_keepString_22 rfl ?_
    refine zz_get X 0 4 rfl rfl (by decide) (fun w h => List.mem_cons_of_mem _ (zf_X4 w h)) rfl (List.mem_cons_of_mem _ zm_179) rfl dX4_keepString_23 ?_
    refine zz_iload_n X 4 dX4_keepString_26 rfl rfl ?_
    refine zz_iconst X 1 dX4_keepString_27 rfl ?_
    refine zz_iadd X ((nI (n + 1))) dX4_keepString_28 (nI_1 _) ?_
    refine zz_iadd X ((nI (k + n + 1))) dX4_keepString_29 (nI_add _ _) ?_
    refine zz_put X 0 4 rfl rfl (by decide) (fun w h => List.mem_cons_of_mem _ (zf_X4 w h)) rfl (List.mem_cons_of_mem _ zm_179) tyX4 tyX4_ok nmX4 rfl (ty := .int) rfl rfl rfl (Nat.le_of_ble_eq_true rfl) dX4_keepString_30 [(h0, .inr (4, [.ref hc, .ref ha, .ref hz, .int used, .int (nI (k + n + 1)), .int top, .int end_, .int full])), (hc, .inl (cA 1, 886000, .inl fc)), (sr, .inl (cA 1, sl, .inl fr))] rfl ?_
    refine zz_aload_n X 1 dX4_keepString_33 rfl rfl ?_
    refine zz_get X 0 0 rfl rfl (by decide) (fun w h => List.mem_cons_of_mem _ (zf_X4 w h)) rfl (List.mem_cons_of_mem _ zm_181) rfl dX4_keepString_34 ?_
    refine zz_iload X 0 dX4_keepString_37 rfl ?_
    refine zz_iconst X 4 dX4_keepString_39 rfl ?_
    refine zz_iload_n X 4 dX4_keepString_40 rfl rfl ?_
    refine zz_iconst X 4 dX4_keepString_41 rfl ?_
    refine zz_ishl X ((nI (n * 2 ^ 4))) dX4_keepString_42 (pk_shlN _ 4 (by decide) (by omega)) ?_
    refine zz_ior X ((nI (n * 2 ^ 4 + 4))) dX4_keepString_43 (zn_or4 n) ?_
    refine zz_iast X 1 1 rfl rfl (vp_in_nI (by omega) (by decide)) k (nI_clamp (by omega)) dX4_keepString_44 [(h0, .inr (4, [.ref hc, .ref ha, .ref hz, .int used, .int (nI (k + n + 1)), .int top, .int end_, .int full])), (hc, .inl (cA 1, 886000, .inl (upd fc k (nI (n * 2 ^ 4 + 4))))), (sr, .inl (cA 1, sl, .inl fr))] rfl ?_
    refine zz_aload_n X 2 dX4_keepString_45 rfl rfl ?_
    refine zz_iload_n X 3 dX4_keepString_46 rfl rfl ?_
    refine zz_aload_n X 1 dX4_keepString_47 rfl rfl ?_
    refine zz_get X 0 0 rfl rfl (by decide) (fun w h => List.mem_cons_of_mem _ (zf_X4 w h)) rfl (List.mem_cons_of_mem _ zm_181) rfl dX4_keepString_48 ?_
    refine zz_iload X 0 dX4_keepString_51 rfl ?_
    refine zz_iconst X 1 dX4_keepString_53 rfl ?_
    refine zz_iadd X ((nI (k + 1))) dX4_keepString_54 (nI_1 _) ?_
    refine zz_iload_n X 4 dX4_keepString_55 rfl rfl ?_
    refine zz_copyi X 2 1 1 1 (List.mem_cons_of_mem _ zm_182) (List.mem_cons_of_mem _ zm_183) (List.mem_cons_of_mem _ zm_184) (List.mem_cons_of_mem _ zm_185) rfl rfl rfl rfl rfl (nI_pos (by omega)) (nI_pos (by omega)) (nI_pos (by omega)) f (k + 1) n (nI_clamp (by omega)) (nI_clamp (by omega)) (nI_clamp (by omega)) (by omega) (by omega) (fun _ => rfl)  (Nat.le_of_ble_eq_true rfl) (Nat.le_of_ble_eq_true rfl) dX4_keepString_56 [(h0, .inr (4, [.ref hc, .ref ha, .ref hz, .int used, .int (nI (k + n + 1)), .int top, .int end_, .int full])), (hc, .inl (cA 1, 886000, .inl (va_cpy fr (upd fc k (nI (n * 2 ^ 4 + 4))) f (k + 1) n))), (sr, .inl (cA 1, sl, .inl fr))] rfl ?_
    refine zz_iload X 0 dX4_keepString_59 rfl ?_
    exact zz_iret X hr ((k + n + 1, va_cpy fr (upd fc k (nI (n * 2 ^ 4 + 4))) f (k + 1) n)) [0, 1, 2] (by decide) rfl rfl (Nat.le_of_ble_eq_true rfl) (Nat.le_of_ble_eq_true rfl) (Or.inr ⟨rfl, rfl, hle, zn_kept (by omega), zn_keptO, zn_keptI⟩) dX4_keepString_61
  · skip
    refine zz_iconst X 1 dX4_keepString_13 rfl ?_
    exact zz_iret X hr ((k, fc)) [0, 1, 2] (by decide) rfl rfl (Nat.le_of_ble_eq_true rfl) (Nat.le_of_ble_eq_true rfl) (Or.inl ⟨rfl, rfl, rfl⟩) dX4_keepString_14

set_option maxHeartbeats 4000000 in
set_option maxRecDepth 100000 in
/-- the table of names: each place holds a kept string, or 0, or 1 -/
def zNT (ft fc : Nat → Int32) (k : Nat) : Prop := 16 ≤ k ∧ k ≤ 60000 ∧ zu4 (fc 1) = nI 0 ∧ ∀ j : Nat, j < 16384 → ∃ a w : Nat, ft j = nI a ∧ a < k ∧ zu4 (fc a) = nI w ∧ a + 1 + w ≤ 886000
theorem zNT_kept {ft fc f2 fr : Nat → Int32} {k k2 f n s0 : Nat} {r : Int32} (h : zNT ft fc k) (hd : (r = 1 ∧ k2 = k ∧ f2 = fc) ∨ (r = nI k ∧ k2 = k + n + 1 ∧ k + n + 1 ≤ 60000 ∧ zu4 (f2 k) = nI n ∧ (∀ j : Nat, (j < k ∨ k + n + 1 ≤ j) → f2 j = fc j) ∧ ∀ j : Nat, j < n → f2 (k + 1 + j) = fr (f + j))) :
    zNT (upd ft s0 r) f2 k2 ∧ k ≤ k2 ∧ (∃ a : Nat, a < k2 ∧ r = nI a) ∧ ∀ j : Nat, (60000 ≤ j ∨ j < 16) → f2 j = fc j := by
  obtain ⟨h16, h60, h1, ht⟩ := h
  rcases hd with ⟨rfl, rfl, rfl⟩ | ⟨rfl, rfl, hle, hz, ho, -⟩
  · refine ⟨⟨h16, h60, h1, fun j hj => ?_⟩, Nat.le_refl _, ⟨1, by omega, rfl⟩, fun _ _ => rfl⟩
    by_cases e : j = s0
    · subst e
      exact ⟨1, 0, pk_us, by omega, h1, by omega⟩
    · rw [pk_un e]
      exact ht j hj
  · refine ⟨⟨by omega, by omega, ?_, fun j hj => ?_⟩, by omega, ⟨k, by omega, rfl⟩, fun j hj => ho j (by omega)⟩
    · rw [ho 1 (by omega)]
      exact h1
    · by_cases e : j = s0
      · subst e
        exact ⟨k, n, pk_us, by omega, hz, by omega⟩
      · rw [pk_un e]
        obtain ⟨a, w, g1, g2, g3, g4⟩ := ht j hj
        exact ⟨a, w, g1, by omega, by rw [ho a (by omega)]; exact g3, g4⟩

set_option maxHeartbeats 4000000 in
set_option maxRecDepth 100000 in
/-- sym: the table stays right -/
theorem kX6_sym {E : zEn} (hE : zOk E) (l : Launch) (D : va_G) (cA : Nat → ClassId) (h0 : Nat) (hc : Nat) (ha : Nat) (hz : Nat) (used : Int32) (top : Int32) (end_ : Int32) (full : Int32) (k : Nat) (n0 : Nat) (tb : Nat) (pa : Nat) (nm : Nat) (ch : Nat) (sb : Nat) (nodes : Int32) (wd : Nat) (bu : Nat) (ki : Nat) (ar : Nat) (le : Nat) (fi : Int32) (fd : Int32) (fs : Int32) (fb : Int32) (fc : Nat → Int32) (ft : Nat → Int32) (sr : Nat) (sl : Nat) (fr : Nat → Int32) (f : Nat) (n : Nat) (hnt : zNT ft fc k) (hf : f + n ≤ sl) (hsl : sl < 2 ^ 20) : zMi E l yX6_sym zwX6_sym ({ frames := 2, cells := 0, slots := 0, locals := 84 }) D vwCl (zT cA) [.ref n0, .ref sr, .int (nI f), .int (nI n)] [(n0, .inr (6, [.ref h0, .ref tb, .ref pa, .ref nm, .ref ch, .ref sb, .int nodes, .ref wd, .ref bu, .ref ki, .ref ar, .ref le, .int fi, .int fd, .int fs, .int fb])), (h0, .inr (4, [.ref hc, .ref ha, .ref hz, .int used, .int (nI k), .int top, .int end_, .int full])), (hc, .inl (cA 1, 886000, .inl fc)), (tb, .inl (cA 1, 16384, .inl ft)), (sr, .inl (cA 1, sl, .inl fr))] (S := (Nat → Int32) × Nat × (Nat → Int32)) (fun (r : Int32) (u : (Nat → Int32) × Nat × (Nat → Int32)) => (zNT u.1 u.2.2 u.2.1) ∧ (k ≤ u.2.1) ∧ (r = fb ∨ ∃ a : Nat, a < u.2.1 ∧ r = nI a) ∧ (∀ j : Nat, (60000 ≤ j ∨ j < 16) → u.2.2 j = fc j)) (fun (u : (Nat → Int32) × Nat × (Nat → Int32)) => [(n0, .inr (6, [.ref h0, .ref tb, .ref pa, .ref nm, .ref ch, .ref sb, .int nodes, .ref wd, .ref bu, .ref ki, .ref ar, .ref le, .int fi, .int fd, .int fs, .int fb])), (h0, .inr (4, [.ref hc, .ref ha, .ref hz, .int used, .int (nI u.2.1), .int top, .int end_, .int full])), (hc, .inl (cA 1, 886000, .inl u.2.2)), (tb, .inl (cA 1, 16384, .inl u.1)), (sr, .inl (cA 1, sl, .inl fr))]) := by
  refine zz_enteri (cc := cX6_sym) (lv := [(0, .ref n0), (1, .ref sr), (2, .int (nI f)), (3, .int (nI n))]) hE 8 (by decide) rfl (Nat.le_of_ble_eq_true rfl) rfl ?_
  intro p e s m args below meth c X hr hin
  refine zz_iload_n X 3 dX6_sym_0 rfl rfl ?_
  refine zz_istore X [(4, .int (nI n)), (0, .ref n0), (1, .ref sr), (2, .int (nI f)), (3, .int (nI n))] dX6_sym_1 (by decide) rfl ?_
  refine zz_iconst X 0 dX6_sym_3 rfl ?_
  refine zz_istore X [(5, .int 0), (4, .int (nI n)), (0, .ref n0), (1, .ref sr), (2, .int (nI f)), (3, .int (nI n))] dX6_sym_4 (by decide) rfl ?_
  refine zz_ind (α := Nat × Int32) (fun zv => n - zv.1) (fun zv => zv.1 ≤ n) (fun zv => [(n0, .inr (6, [.ref h0, .ref tb, .ref pa, .ref nm, .ref ch, .ref sb, .int nodes, .ref wd, .ref bu, .ref ki, .ref ar, .ref le, .int fi, .int fd, .int fs, .int fb])), (h0, .inr (4, [.ref hc, .ref ha, .ref hz, .int used, .int (nI k), .int top, .int end_, .int full])), (hc, .inl (cA 1, 886000, .inl fc)), (tb, .inl (cA 1, 16384, .inl ft)), (sr, .inl (cA 1, sl, .inl fr))]) (fun zv => [(5, .int (nI zv.1)), (4, .int zv.2), (0, .ref n0), (1, .ref sr), (2, .int (nI f)), (3, .int (nI n))]) (fun zv => []) (0, nI n) (Nat.zero_le _) rfl rfl rfl ?_
  intro zv hI_6 ih_6
  obtain ⟨j, hx⟩ := zv
  have hI_6 : j ≤ n := hI_6
  refine zz_at (ws' := [(n0, .inr (6, [.ref h0, .ref tb, .ref pa, .ref nm, .ref ch, .ref sb, .int nodes, .ref wd, .ref bu, .ref ki, .ref ar, .ref le, .int fi, .int fd, .int fs, .int fb])), (h0, .inr (4, [.ref hc, .ref ha, .ref hz, .int used, .int (nI k), .int top, .int end_, .int full])), (hc, .inl (cA 1, 886000, .inl fc)), (tb, .inl (cA 1, 16384, .inl ft)), (sr, .inl (cA 1, sl, .inl fr))]) (lv' := [(5, .int (nI j)), (4, .int hx), (0, .ref n0), (1, .ref sr), (2, .int (nI f)), (3, .int (nI n))]) (st' := []) rfl rfl rfl ?_
  refine zz_iload X 0 dX6_sym_6 rfl ?_
  refine zz_iload_n X 5 dX6_sym_8 rfl rfl ?_
  refine zz_icmp_ge X 32 dX6_sym_9 (by decide) (fun c9 => ?_) (fun c9 => ?_)
  · skip
    refine zz_iload X 1 dX6_sym_32 rfl ?_
    refine zz_iload X 1 dX6_sym_34 rfl ?_
    refine zz_bipush X 15 dX6_sym_36 rfl ?_
    refine zz_iushr X (((hx).toUInt32 >>> ((15 : Int32).toUInt32 &&& Int32.toUInt32 31)).toInt32) dX6_sym_38 rfl ?_
    refine zz_ixor X ((hx ^^^ ((hx).toUInt32 >>> ((15 : Int32).toUInt32 &&& Int32.toUInt32 31)).toInt32)) dX6_sym_39 rfl ?_
    refine zz_sipush X 16383 dX6_sym_40 rfl ?_
    obtain ⟨s9, hs9, es9⟩ := pk_andE (hx ^^^ ((hx).toUInt32 >>> ((15 : Int32).toUInt32 &&& Int32.toUInt32 31)).toInt32) (m := 16383) 14 (by decide)
    refine zz_iand X ((nI s9)) dX6_sym_43 es9 ?_
    refine zz_istore X [(5, .int (nI s9)), (4, .int hx), (0, .ref n0), (1, .ref sr), (2, .int (nI f)), (3, .int (nI n))] dX6_sym_44 (by decide) rfl ?_
    refine zz_iconst X 0 dX6_sym_46 rfl ?_
    refine zz_istore X [(6, .int 0), (5, .int (nI s9)), (4, .int hx), (0, .ref n0), (1, .ref sr), (2, .int (nI f)), (3, .int (nI n))] dX6_sym_47 (by decide) rfl ?_
    refine zz_ind (α := Nat × Nat) (fun zv => 16384 - zv.1) (fun zv => zv.2 < 16384 ∧ zv.1 ≤ 16384) (fun zv => [(n0, .inr (6, [.ref h0, .ref tb, .ref pa, .ref nm, .ref ch, .ref sb, .int nodes, .ref wd, .ref bu, .ref ki, .ref ar, .ref le, .int fi, .int fd, .int fs, .int fb])), (h0, .inr (4, [.ref hc, .ref ha, .ref hz, .int used, .int (nI k), .int top, .int end_, .int full])), (hc, .inl (cA 1, 886000, .inl fc)), (tb, .inl (cA 1, 16384, .inl ft)), (sr, .inl (cA 1, sl, .inl fr))]) (fun zv => [(6, .int (nI zv.1)), (5, .int (nI zv.2)), (4, .int hx), (0, .ref n0), (1, .ref sr), (2, .int (nI f)), (3, .int (nI n))]) (fun zv => []) (0, s9) (⟨hs9, Nat.zero_le _⟩) rfl rfl rfl ?_
    intro zv hI_49 ih_49
    obtain ⟨i, s0⟩ := zv
    have hI_49 : s0 < 16384 ∧ i ≤ 16384 := hI_49
    refine zz_at (ws' := [(n0, .inr (6, [.ref h0, .ref tb, .ref pa, .ref nm, .ref ch, .ref sb, .int nodes, .ref wd, .ref bu, .ref ki, .ref ar, .ref le, .int fi, .int fd, .int fs, .int fb])), (h0, .inr (4, [.ref hc, .ref ha, .ref hz, .int used, .int (nI k), .int top, .int end_, .int full])), (hc, .inl (cA 1, 886000, .inl fc)), (tb, .inl (cA 1, 16384, .inl ft)), (sr, .inl (cA 1, sl, .inl fr))]) (lv' := [(6, .int (nI i)), (5, .int (nI s0)), (4, .int hx), (0, .ref n0), (1, .ref sr), (2, .int (nI f)), (3, .int (nI n))]) (st' := []) rfl rfl rfl ?_
    refine zz_iload X 0 dX6_sym_49 rfl ?_
    refine zz_sipush X 16384 dX6_sym_51 rfl ?_
    refine zz_icmp_ge X 127 dX6_sym_54 (by decide) (fun c54 => ?_) (fun c54 => ?_)
    · skip
      refine zz_aload_n X 3 dX6_sym_127 rfl rfl ?_
      refine zz_get X 0 15 rfl rfl (by decide) (fun w h => List.mem_cons_of_mem _ (zf_X6 w h)) rfl (List.mem_cons_of_mem _ zm_166) rfl dX6_sym_128 ?_
      exact zz_iret X hr ((ft, k, fc)) [0, 1, 2, 3, 4] (by decide) rfl rfl (Nat.le_of_ble_eq_true rfl) (Nat.le_of_ble_eq_true rfl) (⟨hnt, Nat.le_refl _, Or.inl rfl, fun _ _ => rfl⟩) dX6_sym_131
    · skip
      have hi4 : i < 16384 := zn_lt (b := 16384) c54 (by omega)
      obtain ⟨a, w, ea, hak, hw, haw⟩ := hnt.2.2.2 s0 hI_49.1
      have hk60 := hnt.2.1
      refine zz_aload_n X 3 dX6_sym_57 rfl rfl ?_
      refine zz_get X 0 1 rfl rfl (by decide) (fun w h => List.mem_cons_of_mem _ (zf_X6 w h)) rfl (List.mem_cons_of_mem _ zm_167) rfl dX6_sym_58 ?_
      refine zz_iload X 1 dX6_sym_61 rfl ?_
      refine zz_iald X 3 1 rfl rfl (vp_in_nI (by omega) (by decide)) ((nI a)) ((zn_ix (by omega)).trans ea) dX6_sym_63 ?_
      refine zz_istore X [(7, .int (nI a)), (6, .int (nI i)), (5, .int (nI s0)), (4, .int hx), (0, .ref n0), (1, .ref sr), (2, .int (nI f)), (3, .int (nI n))] dX6_sym_64 (by decide) rfl ?_
      refine zz_iload X 0 dX6_sym_66 rfl ?_
      refine zz_if_ne X 96 dX6_sym_68 (by decide) (fun c68 => ?_) (fun c68 => ?_)
      · skip
        refine zz_aload_n X 4 dX6_sym_96 rfl rfl ?_
        refine zz_iload X 0 dX6_sym_97 rfl ?_
        refine zz_aload_n X 5 dX6_sym_99 rfl rfl ?_
        refine zz_iload_n X 6 dX6_sym_100 rfl rfl ?_
        refine zz_iload_n X 7 dX6_sym_101 rfl rfl ?_
        refine zz_callVi X (rest := []) (As := [.int (nI a), .ref sr, .int (nI f), .int (nI n)]) (kX6_same hE l D cA h0 hc ha hz used (nI k) top end_ full n0 tb pa nm ch sb nodes wd bu ki ar le fi fd fs fb fc sr sl fr a f n w hw haw hf (by omega)) 4 (zgV zm_169 zm_170 zm_171 zm_165 zm_168) rfl (by decide +kernel) [0, 1, 2, 4] [3] [(tb, .inl (cA 1, 16384, .inl ft))] rfl rfl (by decide) rfl (by decide) (by decide) ⟨Nat.le_of_ble_eq_true rfl, Nat.le_of_ble_eq_true rfl⟩ 0 rfl rfl rfl rfl rfl (Nat.le_of_ble_eq_true rfl) dX6_sym_102 (Nat.le_of_ble_eq_true rfl) (Nat.le_of_ble_eq_true rfl) (fun r1 _ hw2 => ?_)
        refine zz_show (ws' := [(tb, .inl (cA 1, 16384, .inl ft)), (n0, .inr (6, [.ref h0, .ref tb, .ref pa, .ref nm, .ref ch, .ref sb, .int nodes, .ref wd, .ref bu, .ref ki, .ref ar, .ref le, .int fi, .int fd, .int fs, .int fb])), (h0, .inr (4, [.ref hc, .ref ha, .ref hz, .int used, .int (nI k), .int top, .int end_, .int full])), (hc, .inl (cA 1, 886000, .inl fc)), (sr, .inl (cA 1, sl, .inl fr))]) rfl ?_
        refine zz_if_eq X 111 dX6_sym_105 (by decide) (fun c105 => ?_) (fun c105 => ?_)
        · skip
          refine zz_iload X 2 dX6_sym_111 rfl ?_
          refine zz_iconst X 1 dX6_sym_113 rfl ?_
          refine zz_iadd X ((nI (s0 + 1))) dX6_sym_114 (nI_1 _) ?_
          refine zz_sipush X 16383 dX6_sym_115 rfl ?_
          obtain ⟨s1, hs1, es1⟩ := pk_andE (nI (s0 + 1)) (m := 16383) 14 (by decide)
          refine zz_iand X ((nI s1)) dX6_sym_118 es1 ?_
          refine zz_istore X [(5, .int (nI s1)), (7, .int (nI a)), (6, .int (nI i)), (4, .int hx), (0, .ref n0), (1, .ref sr), (2, .int (nI f)), (3, .int (nI n))] dX6_sym_119 (by decide) rfl ?_
          refine zz_iinc X 2 ((nI (i + 1))) [(6, .int (nI (i + 1))), (5, .int (nI s1)), (7, .int (nI a)), (4, .int hx), (0, .ref n0), (1, .ref sr), (2, .int (nI f)), (3, .int (nI n))] dX6_sym_121 rfl (nI_1 i) (by decide) rfl ?_
          refine zz_goto X 49 dX6_sym_124 (by decide) ?_
          refine zz_ws (ws' := [(n0, .inr (6, [.ref h0, .ref tb, .ref pa, .ref nm, .ref ch, .ref sb, .int nodes, .ref wd, .ref bu, .ref ki, .ref ar, .ref le, .int fi, .int fd, .int fs, .int fb])), (h0, .inr (4, [.ref hc, .ref ha, .ref hz, .int used, .int (nI k), .int top, .int end_, .int full])), (hc, .inl (cA 1, 886000, .inl fc)), (tb, .inl (cA 1, 16384, .inl ft)), (sr, .inl (cA 1, sl, .inl fr))]) [1, 2, 3, 0, 4] (by decide) rfl rfl ?_
          refine zz_lv (lv' := [(6, .int (nI (i + 1))), (5, .int (nI s1)), (4, .int hx), (0, .ref n0), (1, .ref sr), (2, .int (nI f)), (3, .int (nI n))]) [0, 1, 3, 4, 5, 6, 7] rfl ?_
          exact ih_49 (i + 1, s1) (show s1 < 16384 ∧ (i + 1) ≤ 16384 from ⟨hs1, by omega⟩) (show (16384 - (i + 1)) < (16384 - i) from (by omega))
        · skip
          refine zz_iload X 0 dX6_sym_108 rfl ?_
          exact zz_iret X hr ((ft, k, fc)) [1, 2, 3, 0, 4] (by decide) rfl rfl (Nat.le_of_ble_eq_true rfl) (Nat.le_of_ble_eq_true rfl) (⟨hnt, Nat.le_refl _, Or.inr ⟨a, hak, rfl⟩, fun _ _ => rfl⟩) dX6_sym_110
      · skip
        refine zz_aload_n X 4 dX6_sym_71 rfl rfl ?_
        refine zz_get X 0 1 rfl rfl (by decide) (fun w h => List.mem_cons_of_mem _ (zf_X6 w h)) rfl (List.mem_cons_of_mem _ zm_167) rfl dX6_sym_72 ?_
        refine zz_iload X 2 dX6_sym_75 rfl ?_
        refine zz_aload_n X 4 dX6_sym_77 rfl rfl ?_
        refine zz_get X 0 0 rfl rfl (by decide) (fun w h => List.mem_cons_of_mem _ (zf_X6 w h)) rfl (List.mem_cons_of_mem _ zm_172) rfl dX6_sym_78 ?_
        refine zz_aload_n X 5 dX6_sym_81 rfl rfl ?_
        refine zz_iload_n X 6 dX6_sym_82 rfl rfl ?_
        refine zz_iload_n X 7 dX6_sym_83 rfl rfl ?_
        refine zz_callVi X (rest := [.int (nI s0), .ref tb]) (As := [.ref sr, .int (nI f), .int (nI n)]) (kX4_keepString hE l D cA h0 hc ha hz used top end_ full k fc sr sl fr f n hnt.2.1 hf hsl) 3 (zgV zm_175 zm_176 zm_177 zm_178 zm_174) rfl (by decide +kernel) [1, 2, 4] [0, 3] [(n0, .inr (6, [.ref h0, .ref tb, .ref pa, .ref nm, .ref ch, .ref sb, .int nodes, .ref wd, .ref bu, .ref ki, .ref ar, .ref le, .int fi, .int fd, .int fs, .int fb])), (tb, .inl (cA 1, 16384, .inl ft))] rfl rfl (by decide) rfl (by decide) (by decide) ⟨Nat.le_of_ble_eq_true rfl, Nat.le_of_ble_eq_true rfl⟩ 0 rfl rfl rfl rfl rfl (Nat.le_of_ble_eq_true rfl) dX6_sym_84 (Nat.le_of_ble_eq_true rfl) (Nat.le_of_ble_eq_true rfl) (fun r5 u7 hw6 => ?_)
        obtain ⟨k23, f24⟩ := u7
        refine zz_show (ws' := [(n0, .inr (6, [.ref h0, .ref tb, .ref pa, .ref nm, .ref ch, .ref sb, .int nodes, .ref wd, .ref bu, .ref ki, .ref ar, .ref le, .int fi, .int fd, .int fs, .int fb])), (tb, .inl (cA 1, 16384, .inl ft)), (h0, .inr (4, [.ref hc, .ref ha, .ref hz, .int used, .int (nI k23), .int top, .int end_, .int full])), (hc, .inl (cA 1, 886000, .inl f24)), (sr, .inl (cA 1, sl, .inl fr))]) rfl ?_
        refine zz_iast X 1 1 rfl rfl (vp_in_nI (by omega) (by decide)) s0 (nI_clamp (by omega)) dX6_sym_87 [(n0, .inr (6, [.ref h0, .ref tb, .ref pa, .ref nm, .ref ch, .ref sb, .int nodes, .ref wd, .ref bu, .ref ki, .ref ar, .ref le, .int fi, .int fd, .int fs, .int fb])), (tb, .inl (cA 1, 16384, .inl (upd ft s0 r5))), (h0, .inr (4, [.ref hc, .ref ha, .ref hz, .int used, .int (nI k23), .int top, .int end_, .int full])), (hc, .inl (cA 1, 886000, .inl f24)), (sr, .inl (cA 1, sl, .inl fr))] rfl ?_
        refine zz_aload_n X 4 dX6_sym_88 rfl rfl ?_
        refine zz_get X 0 1 rfl rfl (by decide) (fun w h => List.mem_cons_of_mem _ (zf_X6 w h)) rfl (List.mem_cons_of_mem _ zm_167) rfl dX6_sym_89 ?_
        refine zz_iload X 2 dX6_sym_92 rfl ?_
        refine zz_iald X 1 1 rfl rfl (vp_in_nI (by omega) (by decide)) (r5) ((zn_ix (by omega)).trans pk_us) dX6_sym_94 ?_
        exact zz_iret X hr ((upd ft s0 r5, k23, f24)) [0, 2, 3, 1, 4] (by decide) rfl rfl (Nat.le_of_ble_eq_true rfl) (Nat.le_of_ble_eq_true rfl) (⟨(zNT_kept hnt hw6).1, (zNT_kept (s0 := s0) hnt hw6).2.1, Or.inr (zNT_kept (s0 := s0) hnt hw6).2.2.1, (zNT_kept (s0 := s0) hnt hw6).2.2.2⟩) dX6_sym_95
  · skip
    have hjn : j < n := zn_lt c9 (by omega)
    refine zz_iload X 1 dX6_sym_12 rfl ?_
    refine zz_bipush X 31 dX6_sym_14 rfl ?_
    refine zz_imul X ((hx * 31)) dX6_sym_16 rfl ?_
    refine zz_aload_n X 3 dX6_sym_17 rfl rfl ?_
    refine zz_iload_n X 4 dX6_sym_18 rfl rfl ?_
    refine zz_iload X 0 dX6_sym_19 rfl ?_
    refine zz_iadd X ((nI (f + j))) dX6_sym_21 (nI_add _ _) ?_
    refine zz_iald X 4 1 rfl rfl (vp_in_nI (by omega) (by omega)) ((fr (f + j))) (zn_ix (by omega)) dX6_sym_22 ?_
    refine zz_iadd X (((hx * 31) + (fr (f + j)))) dX6_sym_23 rfl ?_
    refine zz_istore X [(4, .int ((hx * 31) + (fr (f + j)))), (5, .int (nI j)), (0, .ref n0), (1, .ref sr), (2, .int (nI f)), (3, .int (nI n))] dX6_sym_24 (by decide) rfl ?_
    refine zz_iinc X 1 ((nI (j + 1))) [(5, .int (nI (j + 1))), (4, .int ((hx * 31) + (fr (f + j)))), (0, .ref n0), (1, .ref sr), (2, .int (nI f)), (3, .int (nI n))] dX6_sym_26 rfl (nI_1 j) (by decide) rfl ?_
    refine zz_goto X 6 dX6_sym_29 (by decide) ?_
    exact ih_6 (j + 1, ((hx * 31) + (fr (f + j)))) (show (j + 1) ≤ n from (by omega)) (show (n - (j + 1)) < (n - j) from (by omega))

set_option maxHeartbeats 4000000 in
set_option maxRecDepth 100000 in
theorem zn_min {a b : Nat} (ha : a < 2 ^ 31) (hb : b < 2 ^ 31) : (if nI b < nI a then nI b else nI a) = nI (min a b) := by
  by_cases h : b < a
  · rw [if_pos ((nI_ltI hb ha).mpr h), Nat.min_eq_right (Nat.le_of_lt h)]
  · rw [if_neg (fun q => h ((nI_ltI hb ha).mp q)), Nat.min_eq_left (Nat.le_of_not_lt h)]
theorem zn_pos {i : Nat} (h : ¬ nI i = 0) : 0 < i := by
  rcases Nat.eq_zero_or_pos i with e | e
  · exact absurd (by rw [e]; rfl) h
  · exact e

set_option maxHeartbeats 4000000 in
set_option maxRecDepth 100000 in
/-- symOf -/
theorem kX6_symOf {E : zEn} (hE : zOk E) (l : Launch) (D : va_G) (cA : Nat → ClassId) (N : Nat) (len : List Nat) (byt : List (List Int32)) (K : Nat → Nat) (V : Nat → Nat) (i : Nat) (h0 : Nat) (hc : Nat) (ha : Nat) (hz : Nat) (used : Int32) (top : Int32) (end_ : Int32) (full : Int32) (k : Nat) (n0 : Nat) (tb : Nat) (pa : Nat) (nm : Nat) (ch : Nat) (sb : Nat) (nodes : Int32) (wd : Nat) (bu : Nat) (ki : Nat) (ar : Nat) (le : Nat) (fi : Int32) (fd : Int32) (fs : Int32) (fb : Int32) (fc : Nat → Int32) (ft : Nat → Int32) (lf : Nat → Int32) (f : Nat) (g : Nat) (hs : zSt E N len byt K V) (hi : i < N) (hnt : zNT ft fc k) (hfg : f ≤ g) (hg : g ≤ max f (len.getD i 0)) (hf : f < 2 ^ 30) : zMi E l yX6_symOf zwX6_symOf ({ frames := 4, cells := 0, slots := 0, locals := 111 }) D vwCl (zT cA) [.ref n0, .ref (K i), .int (nI f), .int (nI g)] [(n0, .inr (6, [.ref h0, .ref tb, .ref pa, .ref nm, .ref ch, .ref sb, .int nodes, .ref wd, .ref bu, .ref ki, .ref ar, .ref le, .int fi, .int fd, .int fs, .int fb])), (h0, .inr (4, [.ref hc, .ref ha, .ref hz, .int used, .int (nI k), .int top, .int end_, .int full])), (hc, .inl (cA 1, 886000, .inl fc)), (tb, .inl (cA 1, 16384, .inl ft)), (le, .inl (cA 1, 32, .inl lf))] (S := (Nat → Int32) × Nat × (Nat → Int32) × (Nat → Int32)) (fun (r : Int32) (u : (Nat → Int32) × Nat × (Nat → Int32) × (Nat → Int32)) => (zNT u.1 u.2.2.1 u.2.1) ∧ (k ≤ u.2.1) ∧ (r = fb ∨ ∃ a : Nat, a < u.2.1 ∧ r = nI a) ∧ (∀ j : Nat, (60000 ≤ j ∨ j < 16) → u.2.2.1 j = fc j)) (fun (u : (Nat → Int32) × Nat × (Nat → Int32) × (Nat → Int32)) => [(n0, .inr (6, [.ref h0, .ref tb, .ref pa, .ref nm, .ref ch, .ref sb, .int nodes, .ref wd, .ref bu, .ref ki, .ref ar, .ref le, .int fi, .int fd, .int fs, .int fb])), (h0, .inr (4, [.ref hc, .ref ha, .ref hz, .int used, .int (nI u.2.1), .int top, .int end_, .int full])), (hc, .inl (cA 1, 886000, .inl u.2.2.1)), (tb, .inl (cA 1, 16384, .inl u.1)), (le, .inl (cA 1, 32, .inl u.2.2.2))]) := by
  refine zz_enteri (cc := cX6_symOf) (lv := [(0, .ref n0), (1, .ref (K i)), (2, .int (nI f)), (3, .int (nI g))]) hE 6 (by decide) rfl (Nat.le_of_ble_eq_true rfl) rfl ?_
  intro p e s m args below meth c X hr hin
  refine zz_iload_n X 3 dX6_symOf_0 rfl rfl ?_
  refine zz_iload_n X 2 dX6_symOf_1 rfl rfl ?_
  refine zz_isub X ((nI (g - f))) dX6_symOf_2 (pk_sub hfg) ?_
  refine zz_aload_n X 0 dX6_symOf_3 rfl rfl ?_
  refine zz_get X 0 11 rfl rfl (by decide) (fun w h => List.mem_cons_of_mem _ (zf_X6 w h)) rfl (List.mem_cons_of_mem _ zm_232) rfl dX6_symOf_4 ?_
  refine zz_alen X 4 1 rfl rfl (32) rfl dX6_symOf_7 ?_
  have hL := hs.2.2.2 i hi
  refine zz_mmin X ((nI (min (g - f) 32))) (List.mem_cons_of_mem _ zm_256) (List.mem_cons_of_mem _ zm_257) (List.mem_cons_of_mem _ zm_258) (List.mem_cons_of_mem _ zm_259) (Nat.le_of_ble_eq_true rfl) (Nat.le_of_ble_eq_true rfl) (Nat.le_of_ble_eq_true rfl) (Nat.le_of_ble_eq_true rfl) dX6_symOf_8 (zn_min (b := 32) (by omega) (by decide)) ?_
  refine zz_istore X [(4, .int (nI (min (g - f) 32))), (0, .ref n0), (1, .ref (K i)), (2, .int (nI f)), (3, .int (nI g))] dX6_symOf_11 (by decide) rfl ?_
  refine zz_iconst X 0 dX6_symOf_13 rfl ?_
  refine zz_istore X [(5, .int 0), (4, .int (nI (min (g - f) 32))), (0, .ref n0), (1, .ref (K i)), (2, .int (nI f)), (3, .int (nI g))] dX6_symOf_14 (by decide) rfl ?_
  refine zz_ind (α := Nat × (Nat → Int32)) (fun zv => min (g - f) 32 - zv.1) (fun zv => zv.1 ≤ min (g - f) 32) (fun zv => [(n0, .inr (6, [.ref h0, .ref tb, .ref pa, .ref nm, .ref ch, .ref sb, .int nodes, .ref wd, .ref bu, .ref ki, .ref ar, .ref le, .int fi, .int fd, .int fs, .int fb])), (h0, .inr (4, [.ref hc, .ref ha, .ref hz, .int used, .int (nI k), .int top, .int end_, .int full])), (hc, .inl (cA 1, 886000, .inl fc)), (tb, .inl (cA 1, 16384, .inl ft)), (le, .inl (cA 1, 32, .inl zv.2))]) (fun zv => [(5, .int (nI zv.1)), (4, .int (nI (min (g - f) 32))), (0, .ref n0), (1, .ref (K i)), (2, .int (nI f)), (3, .int (nI g))]) (fun zv => []) (0, lf) (Nat.zero_le _) rfl rfl rfl ?_
  intro zv hI_16 ih_16
  obtain ⟨j, lg⟩ := zv
  have hI_16 : j ≤ min (g - f) 32 := hI_16
  refine zz_at (ws' := [(n0, .inr (6, [.ref h0, .ref tb, .ref pa, .ref nm, .ref ch, .ref sb, .int nodes, .ref wd, .ref bu, .ref ki, .ref ar, .ref le, .int fi, .int fd, .int fs, .int fb])), (h0, .inr (4, [.ref hc, .ref ha, .ref hz, .int used, .int (nI k), .int top, .int end_, .int full])), (hc, .inl (cA 1, 886000, .inl fc)), (tb, .inl (cA 1, 16384, .inl ft)), (le, .inl (cA 1, 32, .inl lg))]) (lv' := [(5, .int (nI j)), (4, .int (nI (min (g - f) 32))), (0, .ref n0), (1, .ref (K i)), (2, .int (nI f)), (3, .int (nI g))]) (st' := []) rfl rfl rfl ?_
  refine zz_iload X 0 dX6_symOf_16 rfl ?_
  refine zz_iload X 1 dX6_symOf_18 rfl ?_
  refine zz_icmp_ge X 44 dX6_symOf_20 (by decide) (fun c20 => ?_) (fun c20 => ?_)
  · skip
    refine zz_aload_n X 2 dX6_symOf_44 rfl rfl ?_
    refine zz_aload_n X 2 dX6_symOf_45 rfl rfl ?_
    refine zz_get X 0 11 rfl rfl (by decide) (fun w h => List.mem_cons_of_mem _ (zf_X6 w h)) rfl (List.mem_cons_of_mem _ zm_232) rfl dX6_symOf_46 ?_
    refine zz_iconst X 0 dX6_symOf_49 rfl ?_
    refine zz_iload X 1 dX6_symOf_50 rfl ?_
    refine zz_callVi X (rest := []) (As := [.ref le, .int 0, .int (nI (min (g - f) 32))]) (kX6_sym hE l D cA h0 hc ha hz used top end_ full k n0 tb pa nm ch sb nodes wd bu ki ar le fi fd fs fb fc ft le 32 lg 0 (min (g - f) 32) hnt (by omega) (by decide)) 3 (zgV zm_260 zm_163 zm_164 zm_165 zm_161) rfl (by decide +kernel) [0, 1, 2, 3, 4] [] [] rfl rfl (by decide) rfl (by decide) (by decide) ⟨Nat.le_of_ble_eq_true rfl, Nat.le_of_ble_eq_true rfl⟩ 0 rfl rfl rfl rfl rfl (Nat.le_of_ble_eq_true rfl) dX6_symOf_52 (Nat.le_of_ble_eq_true rfl) (Nat.le_of_ble_eq_true rfl) (fun r4 u6 hw5 => ?_)
    obtain ⟨ft21, k22, f23⟩ := u6
    refine zz_show (ws' := [(n0, .inr (6, [.ref h0, .ref tb, .ref pa, .ref nm, .ref ch, .ref sb, .int nodes, .ref wd, .ref bu, .ref ki, .ref ar, .ref le, .int fi, .int fd, .int fs, .int fb])), (h0, .inr (4, [.ref hc, .ref ha, .ref hz, .int used, .int (nI k22), .int top, .int end_, .int full])), (hc, .inl (cA 1, 886000, .inl f23)), (tb, .inl (cA 1, 16384, .inl ft21)), (le, .inl (cA 1, 32, .inl lg))]) rfl ?_
    exact zz_iret X hr ((ft21, k22, f23, lg)) [0, 1, 2, 3, 4] (by decide) rfl rfl (Nat.le_of_ble_eq_true rfl) (Nat.le_of_ble_eq_true rfl) (⟨hw5.1, hw5.2.1, hw5.2.2.1, hw5.2.2.2⟩) dX6_symOf_55
  · skip
    have hjn : j < min (g - f) 32 := zn_lt c20 (by omega)
    refine zz_aload_n X 2 dX6_symOf_23 rfl rfl ?_
    refine zz_get X 0 11 rfl rfl (by decide) (fun w h => List.mem_cons_of_mem _ (zf_X6 w h)) rfl (List.mem_cons_of_mem _ zm_232) rfl dX6_symOf_24 ?_
    refine zz_iload X 0 dX6_symOf_27 rfl ?_
    refine zz_aload_n X 3 dX6_symOf_29 rfl rfl ?_
    refine zz_iload_n X 4 dX6_symOf_30 rfl rfl ?_
    refine zz_iload X 0 dX6_symOf_31 rfl ?_
    refine zz_iadd X ((nI (f + j))) dX6_symOf_33 (nI_add _ _) ?_
    refine zz_callTi X (rest := [.int (nI j), .ref le]) (As := [.int (nI (f + j))]) (kJ0_charAt hE l D cA N len byt K V i (f + j) hs hi (by omega)) 1 (zgV zm_247 zm_139 zm_140 zm_141 zm_137) rfl (by decide +kernel) [] [0, 1, 2, 3, 4] [(n0, .inr (6, [.ref h0, .ref tb, .ref pa, .ref nm, .ref ch, .ref sb, .int nodes, .ref wd, .ref bu, .ref ki, .ref ar, .ref le, .int fi, .int fd, .int fs, .int fb])), (h0, .inr (4, [.ref hc, .ref ha, .ref hz, .int used, .int (nI k), .int top, .int end_, .int full])), (hc, .inl (cA 1, 886000, .inl fc)), (tb, .inl (cA 1, 16384, .inl ft)), (le, .inl (cA 1, 32, .inl lg))] rfl rfl (by decide) rfl (by decide) (by decide) ⟨Nat.le_of_ble_eq_true rfl, Nat.le_of_ble_eq_true rfl⟩ (zz_recvS X hs hi) rfl rfl rfl (Nat.le_of_ble_eq_true rfl) dX6_symOf_34 (Nat.le_of_ble_eq_true rfl) (Nat.le_of_ble_eq_true rfl) (fun r7 _ hw8 => ?_)
    obtain rfl := hw8
    refine zz_show (ws' := [(n0, .inr (6, [.ref h0, .ref tb, .ref pa, .ref nm, .ref ch, .ref sb, .int nodes, .ref wd, .ref bu, .ref ki, .ref ar, .ref le, .int fi, .int fd, .int fs, .int fb])), (h0, .inr (4, [.ref hc, .ref ha, .ref hz, .int used, .int (nI k), .int top, .int end_, .int full])), (hc, .inl (cA 1, 886000, .inl fc)), (tb, .inl (cA 1, 16384, .inl ft)), (le, .inl (cA 1, 32, .inl lg))]) rfl ?_
    refine zz_iast X 4 1 rfl rfl (vp_in_nI (by omega) (by decide)) j (nI_clamp (by omega)) dX6_symOf_37 [(n0, .inr (6, [.ref h0, .ref tb, .ref pa, .ref nm, .ref ch, .ref sb, .int nodes, .ref wd, .ref bu, .ref ki, .ref ar, .ref le, .int fi, .int fd, .int fs, .int fb])), (h0, .inr (4, [.ref hc, .ref ha, .ref hz, .int used, .int (nI k), .int top, .int end_, .int full])), (hc, .inl (cA 1, 886000, .inl fc)), (tb, .inl (cA 1, 16384, .inl ft)), (le, .inl (cA 1, 32, .inl (upd lg j ((byt.getD i []).getD (f + j) 0 &&& 255))))] rfl ?_
    refine zz_iinc X 0 ((nI (j + 1))) [(5, .int (nI (j + 1))), (4, .int (nI (min (g - f) 32))), (0, .ref n0), (1, .ref (K i)), (2, .int (nI f)), (3, .int (nI g))] dX6_symOf_38 rfl (nI_1 j) (by decide) rfl ?_
    refine zz_goto X 16 dX6_symOf_41 (by decide) ?_
    exact ih_16 (j + 1, upd lg j ((byt.getD i []).getD (f + j) 0 &&& 255)) (show (j + 1) ≤ min (g - f) 32 from (by omega)) (show (min (g - f) 32 - (j + 1)) < (min (g - f) 32 - j) from (by omega))

set_option maxHeartbeats 4000000 in
set_option maxRecDepth 100000 in
/-- the tree of paths: children and siblings lead to lower nodes -/
def zNI (fch fsb : Nat → Int32) (N : Nat) : Prop := 1 ≤ N ∧ N ≤ 12288 ∧ ∀ j : Nat, j < 12288 → (∃ b : Nat, fch j = nI b ∧ b < N) ∧ ∃ b : Nat, fsb j = nI b ∧ (b = 0 ∨ b < j)
theorem zNI_add {fch fsb : Nat → Int32} {N a cb : Nat} (h : zNI fch fsb N) (hN : N < 12288) (ha : a < 12288) (e : fch a = nI cb) (hcb : cb < N) : zNI (upd fch a (nI N)) (upd fsb N (nI cb)) (N + 1) := by
  refine ⟨by omega, by omega, fun j hj => ?_⟩
  obtain ⟨⟨b, g1, g2⟩, b2, g3, g4⟩ := h.2.2 j hj
  refine ⟨?_, ?_⟩
  · by_cases q : j = a
    · subst q
      exact ⟨N, pk_us, by omega⟩
    · exact ⟨b, by rw [pk_un q]; exact g1, by omega⟩
  · by_cases q : j = N
    · subst q
      exact ⟨cb, pk_us, Or.inr hcb⟩
    · exact ⟨b2, by rw [pk_un q]; exact g3, g4⟩

set_option maxHeartbeats 4000000 in
set_option maxRecDepth 100000 in
/-- find: -1 or a node -/
theorem kX6_find {E : zEn} (hE : zOk E) (l : Launch) (D : va_G) (cA : Nat → ClassId) (h0 : Nat) (n0 : Nat) (tb : Nat) (pa : Nat) (nm : Nat) (ch : Nat) (sb : Nat) (wd : Nat) (bu : Nat) (ki : Nat) (ar : Nat) (le : Nat) (fi : Int32) (fd : Int32) (fs : Int32) (fb : Int32) (N1 : Nat) (fnm : Nat → Int32) (fch : Nat → Int32) (fsb : Nat → Int32) (a : Nat) (sym : Int32) (hni : zNI fch fsb N1) (haN : a < 12288) : zMi E l yX6_find zwX6_find ({ frames := 0, cells := 0, slots := 0, locals := 0 }) D vwCl (zT cA) [.ref n0, .int (nI a), .int sym] [(n0, .inr (6, [.ref h0, .ref tb, .ref pa, .ref nm, .ref ch, .ref sb, .int (nI N1), .ref wd, .ref bu, .ref ki, .ref ar, .ref le, .int fi, .int fd, .int fs, .int fb])), (nm, .inl (cA 1, 12288, .inl fnm)), (ch, .inl (cA 1, 12288, .inl fch)), (sb, .inl (cA 1, 12288, .inl fsb))] (S := Unit) (fun (r : Int32) (u : Unit) => (r = -1 ∨ ∃ b : Nat, r = nI b ∧ b < N1)) (fun (u : Unit) => [(n0, .inr (6, [.ref h0, .ref tb, .ref pa, .ref nm, .ref ch, .ref sb, .int (nI N1), .ref wd, .ref bu, .ref ki, .ref ar, .ref le, .int fi, .int fd, .int fs, .int fb])), (nm, .inl (cA 1, 12288, .inl fnm)), (ch, .inl (cA 1, 12288, .inl fch)), (sb, .inl (cA 1, 12288, .inl fsb))]) := by
  refine zz_enteri (cc := cX6_find) (lv := [(0, .ref n0), (1, .int (nI a)), (2, .int sym)]) hE 4 (by decide) rfl (Nat.le_of_ble_eq_true rfl) rfl ?_
  intro p e s m args below meth c X hr hin
  refine zz_aload_n X 0 dX6_find_0 rfl rfl ?_
  refine zz_get X 0 4 rfl rfl (by decide) (fun w h => List.mem_cons_of_mem _ (zf_X6 w h)) rfl (List.mem_cons_of_mem _ zm_225) rfl dX6_find_1 ?_
  refine zz_iload_n X 1 dX6_find_4 rfl rfl ?_
  obtain ⟨⟨b0, eb0, hb0⟩, -⟩ := hni.2.2 a haN
  have hN9 := hni.2.1
  refine zz_iald X 2 1 rfl rfl (vp_in_nI (by omega) (by decide)) ((nI b0)) ((zn_ix (by omega)).trans eb0) dX6_find_5 ?_
  refine zz_istore_n X [(3, .int (nI b0)), (0, .ref n0), (1, .int (nI a)), (2, .int sym)] dX6_find_6 rfl (by decide) rfl ?_
  refine zz_ind (α := Nat) (fun zv => zv) (fun zv => zv < N1) (fun zv => [(n0, .inr (6, [.ref h0, .ref tb, .ref pa, .ref nm, .ref ch, .ref sb, .int (nI N1), .ref wd, .ref bu, .ref ki, .ref ar, .ref le, .int fi, .int fd, .int fs, .int fb])), (nm, .inl (cA 1, 12288, .inl fnm)), (ch, .inl (cA 1, 12288, .inl fch)), (sb, .inl (cA 1, 12288, .inl fsb))]) (fun zv => [(3, .int (nI zv)), (0, .ref n0), (1, .int (nI a)), (2, .int sym)]) (fun zv => []) (b0) (hb0) rfl rfl rfl ?_
  intro zv hI_7 ih_7
  obtain ⟨i, rfl⟩ : ∃ z, z = zv := ⟨_, rfl⟩
  have hI_7 : i < N1 := hI_7
  refine zz_at (ws' := [(n0, .inr (6, [.ref h0, .ref tb, .ref pa, .ref nm, .ref ch, .ref sb, .int (nI N1), .ref wd, .ref bu, .ref ki, .ref ar, .ref le, .int fi, .int fd, .int fs, .int fb])), (nm, .inl (cA 1, 12288, .inl fnm)), (ch, .inl (cA 1, 12288, .inl fch)), (sb, .inl (cA 1, 12288, .inl fsb))]) (lv' := [(3, .int (nI i)), (0, .ref n0), (1, .int (nI a)), (2, .int sym)]) (st' := []) rfl rfl rfl ?_
  refine zz_iload_n X 0 dX6_find_7 rfl rfl ?_
  refine zz_if_eq X 33 dX6_find_8 (by decide) (fun c8 => ?_) (fun c8 => ?_)
  · skip
    refine zz_iconst X (-1) dX6_find_33 rfl ?_
    exact zz_iret X hr (()) [0, 1, 2, 3] (by decide) rfl rfl (Nat.le_of_ble_eq_true rfl) (Nat.le_of_ble_eq_true rfl) (Or.inl rfl) dX6_find_34
  · skip
    have hi0 := zn_pos c8
    obtain ⟨-, b2, eb2, hb2⟩ := hni.2.2 i (by omega)
    refine zz_aload_n X 1 dX6_find_11 rfl rfl ?_
    refine zz_get X 0 3 rfl rfl (by decide) (fun w h => List.mem_cons_of_mem _ (zf_X6 w h)) rfl (List.mem_cons_of_mem _ zm_224) rfl dX6_find_12 ?_
    refine zz_iload_n X 0 dX6_find_15 rfl rfl ?_
    refine zz_iald X 1 1 rfl rfl (vp_in_nI (by omega) (by decide)) ((fnm i)) (zn_ix (by omega)) dX6_find_16 ?_
    refine zz_iload_n X 3 dX6_find_17 rfl rfl ?_
    refine zz_icmp_ne X 23 dX6_find_18 (by decide) (fun c18 => ?_) (fun c18 => ?_)
    · skip
      refine zz_aload_n X 1 dX6_find_23 rfl rfl ?_
      refine zz_get X 0 5 rfl rfl (by decide) (fun w h => List.mem_cons_of_mem _ (zf_X6 w h)) rfl (List.mem_cons_of_mem _ zm_226) rfl dX6_find_24 ?_
      refine zz_iload_n X 0 dX6_find_27 rfl rfl ?_
      refine zz_iald X 3 1 rfl rfl (vp_in_nI (by omega) (by decide)) ((nI b2)) ((zn_ix (by omega)).trans eb2) dX6_find_28 ?_
      refine zz_istore_n X [(3, .int (nI b2)), (0, .ref n0), (1, .int (nI a)), (2, .int sym)] dX6_find_29 rfl (by decide) rfl ?_
      refine zz_goto X 7 dX6_find_30 (by decide) ?_
      exact ih_7 (b2) (show b2 < N1 from (by omega)) (show (b2) < (i) from (by omega))
    · skip
      refine zz_iload_n X 0 dX6_find_21 rfl rfl ?_
      exact zz_iret X hr (()) [0, 1, 2, 3] (by decide) rfl rfl (Nat.le_of_ble_eq_true rfl) (Nat.le_of_ble_eq_true rfl) (Or.inr ⟨i, rfl, hI_7⟩) dX6_find_22

set_option maxHeartbeats 4000000 in
set_option maxRecDepth 100000 in
/-- node: the child, made where it is not there -/
theorem kX6_node {E : zEn} (hE : zOk E) (l : Launch) (D : va_G) (cA : Nat → ClassId) (h0 : Nat) (n0 : Nat) (tb : Nat) (pa : Nat) (nm : Nat) (ch : Nat) (sb : Nat) (wd : Nat) (bu : Nat) (ki : Nat) (ar : Nat) (le : Nat) (fi : Int32) (fd : Int32) (fs : Int32) (fb : Int32) (N1 : Nat) (fpa : Nat → Int32) (fnm : Nat → Int32) (fch : Nat → Int32) (fsb : Nat → Int32) (a : Nat) (sym : Int32) (hni : zNI fch fsb N1) (haN : a < 12288) : zMi E l yX6_node zwX6_node ({ frames := 1, cells := 0, slots := 0, locals := 23 }) D vwCl (zT cA) [.ref n0, .int (nI a), .int sym] [(n0, .inr (6, [.ref h0, .ref tb, .ref pa, .ref nm, .ref ch, .ref sb, .int (nI N1), .ref wd, .ref bu, .ref ki, .ref ar, .ref le, .int fi, .int fd, .int fs, .int fb])), (pa, .inl (cA 1, 12288, .inl fpa)), (nm, .inl (cA 1, 12288, .inl fnm)), (ch, .inl (cA 1, 12288, .inl fch)), (sb, .inl (cA 1, 12288, .inl fsb))] (S := Nat × (Nat → Int32) × (Nat → Int32) × (Nat → Int32) × (Nat → Int32)) (fun (r : Int32) (u : Nat × (Nat → Int32) × (Nat → Int32) × (Nat → Int32) × (Nat → Int32)) => (zNI u.2.2.2.1 u.2.2.2.2 u.1) ∧ (N1 ≤ u.1) ∧ (∃ b : Nat, r = nI b ∧ b < u.1)) (fun (u : Nat × (Nat → Int32) × (Nat → Int32) × (Nat → Int32) × (Nat → Int32)) => [(n0, .inr (6, [.ref h0, .ref tb, .ref pa, .ref nm, .ref ch, .ref sb, .int (nI u.1), .ref wd, .ref bu, .ref ki, .ref ar, .ref le, .int fi, .int fd, .int fs, .int fb])), (pa, .inl (cA 1, 12288, .inl u.2.1)), (nm, .inl (cA 1, 12288, .inl u.2.2.1)), (ch, .inl (cA 1, 12288, .inl u.2.2.2.1)), (sb, .inl (cA 1, 12288, .inl u.2.2.2.2))]) := by
  refine zz_enteri (cc := cX6_node) (lv := [(0, .ref n0), (1, .int (nI a)), (2, .int sym)]) hE 4 (by decide) rfl (Nat.le_of_ble_eq_true rfl) rfl ?_
  intro p e s m args below meth c X hr hin
  refine zz_aload_n X 0 dX6_node_0 rfl rfl ?_
  refine zz_iload_n X 1 dX6_node_1 rfl rfl ?_
  refine zz_iload_n X 2 dX6_node_2 rfl rfl ?_
  refine zz_callVi X (rest := []) (As := [.int (nI a), .int sym]) (kX6_find hE l D cA h0 n0 tb pa nm ch sb wd bu ki ar le fi fd fs fb N1 fnm fch fsb a sym hni haN) 2 (zgV zm_266 zm_267 zm_268 zm_165 zm_265) rfl (by decide +kernel) [0, 2, 3, 4] [1] [(pa, .inl (cA 1, 12288, .inl fpa))] rfl rfl (by decide) rfl (by decide) (by decide) ⟨Nat.le_of_ble_eq_true rfl, Nat.le_of_ble_eq_true rfl⟩ 0 rfl rfl rfl rfl rfl (Nat.le_of_ble_eq_true rfl) dX6_node_3 (Nat.le_of_ble_eq_true rfl) (Nat.le_of_ble_eq_true rfl) (fun r1 _ hw2 => ?_)
  refine zz_show (ws' := [(pa, .inl (cA 1, 12288, .inl fpa)), (n0, .inr (6, [.ref h0, .ref tb, .ref pa, .ref nm, .ref ch, .ref sb, .int (nI N1), .ref wd, .ref bu, .ref ki, .ref ar, .ref le, .int fi, .int fd, .int fs, .int fb])), (nm, .inl (cA 1, 12288, .inl fnm)), (ch, .inl (cA 1, 12288, .inl fch)), (sb, .inl (cA 1, 12288, .inl fsb))]) rfl ?_
  have hN9 := hni.2.1
  rcases hw2 with rfl | ⟨b, rfl, hb⟩
  · skip
    refine zz_istore_n X [(3, .int (-1)), (0, .ref n0), (1, .int (nI a)), (2, .int sym)] dX6_node_6 rfl (by decide) rfl ?_
    refine zz_iload_n X 0 dX6_node_7 rfl rfl ?_
    refine zz_if_ge X 21 dX6_node_8 (by decide) (fun h => absurd h (by decide)) (fun _ => ?_)
    refine zz_aload_n X 1 dX6_node_11 rfl rfl ?_
    refine zz_get X 1 6 rfl rfl (by decide) (fun w h => List.mem_cons_of_mem _ (zf_X6 w h)) rfl (List.mem_cons_of_mem _ zm_227) rfl dX6_node_12 ?_
    refine zz_sipush X 12288 dX6_node_15 rfl ?_
    refine zz_icmp_lt X 27 dX6_node_18 (by decide) (fun c18 => ?_) (fun c18 => ?_)
    · skip
      have hlt : N1 < 12288 := (nI_ltI (b := 12288) (by omega) (by decide)).mp c18
      obtain ⟨⟨cb, ecb, hcb⟩, -⟩ := hni.2.2 a haN
      refine zz_aload_n X 1 dX6_node_27 rfl rfl ?_
      refine zz_get X 1 6 rfl rfl (by decide) (fun w h => List.mem_cons_of_mem _ (zf_X6 w h)) rfl (List.mem_cons_of_mem _ zm_227) rfl dX6_node_28 ?_
      refine zz_istore_n X [(3, .int (nI N1)), (0, .ref n0), (1, .int (nI a)), (2, .int sym)] dX6_node_31 rfl (by decide) rfl ?_
      refine zz_aload_n X 1 dX6_node_32 rfl rfl ?_
      refine zz_dup X dX6_node_33 rfl ?_
      refine zz_get X 1 6 rfl rfl (by decide) (fun w h => List.mem_cons_of_mem _ (zf_X6 w h)) rfl (List.mem_cons_of_mem _ zm_227) rfl dX6_node_34 ?_
      refine zz_iconst X 1 dX6_node_37 rfl ?_
      refine zz_iadd X ((nI (N1 + 1))) dX6_node_38 (nI_1 _) ?_
      refine zz_put X 1 6 rfl rfl (by decide) (fun w h => List.mem_cons_of_mem _ (zf_X6 w h)) rfl (List.mem_cons_of_mem _ zm_227) tyX6 tyX6_ok nmX6 rfl (ty := .int) rfl rfl rfl (Nat.le_of_ble_eq_true rfl) dX6_node_39 [(pa, .inl (cA 1, 12288, .inl fpa)), (n0, .inr (6, [.ref h0, .ref tb, .ref pa, .ref nm, .ref ch, .ref sb, .int (nI (N1 + 1)), .ref wd, .ref bu, .ref ki, .ref ar, .ref le, .int fi, .int fd, .int fs, .int fb])), (nm, .inl (cA 1, 12288, .inl fnm)), (ch, .inl (cA 1, 12288, .inl fch)), (sb, .inl (cA 1, 12288, .inl fsb))] rfl ?_
      refine zz_aload_n X 1 dX6_node_42 rfl rfl ?_
      refine zz_get X 1 2 rfl rfl (by decide) (fun w h => List.mem_cons_of_mem _ (zf_X6 w h)) rfl (List.mem_cons_of_mem _ zm_223) rfl dX6_node_43 ?_
      refine zz_iload_n X 0 dX6_node_46 rfl rfl ?_
      refine zz_iload_n X 2 dX6_node_47 rfl rfl ?_
      refine zz_iast X 0 1 rfl rfl (vp_in_nI (by omega) (by decide)) N1 (nI_clamp (by omega)) dX6_node_48 [(pa, .inl (cA 1, 12288, .inl (upd fpa N1 (nI a)))), (n0, .inr (6, [.ref h0, .ref tb, .ref pa, .ref nm, .ref ch, .ref sb, .int (nI (N1 + 1)), .ref wd, .ref bu, .ref ki, .ref ar, .ref le, .int fi, .int fd, .int fs, .int fb])), (nm, .inl (cA 1, 12288, .inl fnm)), (ch, .inl (cA 1, 12288, .inl fch)), (sb, .inl (cA 1, 12288, .inl fsb))] rfl ?_
      refine zz_aload_n X 1 dX6_node_49 rfl rfl ?_
      refine zz_get X 1 3 rfl rfl (by decide) (fun w h => List.mem_cons_of_mem _ (zf_X6 w h)) rfl (List.mem_cons_of_mem _ zm_224) rfl dX6_node_50 ?_
      refine zz_iload_n X 0 dX6_node_53 rfl rfl ?_
      refine zz_iload_n X 3 dX6_node_54 rfl rfl ?_
      refine zz_iast X 2 1 rfl rfl (vp_in_nI (by omega) (by decide)) N1 (nI_clamp (by omega)) dX6_node_55 [(pa, .inl (cA 1, 12288, .inl (upd fpa N1 (nI a)))), (n0, .inr (6, [.ref h0, .ref tb, .ref pa, .ref nm, .ref ch, .ref sb, .int (nI (N1 + 1)), .ref wd, .ref bu, .ref ki, .ref ar, .ref le, .int fi, .int fd, .int fs, .int fb])), (nm, .inl (cA 1, 12288, .inl (upd fnm N1 sym))), (ch, .inl (cA 1, 12288, .inl fch)), (sb, .inl (cA 1, 12288, .inl fsb))] rfl ?_
      refine zz_aload_n X 1 dX6_node_56 rfl rfl ?_
      refine zz_get X 1 5 rfl rfl (by decide) (fun w h => List.mem_cons_of_mem _ (zf_X6 w h)) rfl (List.mem_cons_of_mem _ zm_226) rfl dX6_node_57 ?_
      refine zz_iload_n X 0 dX6_node_60 rfl rfl ?_
      refine zz_aload_n X 1 dX6_node_61 rfl rfl ?_
      refine zz_get X 1 4 rfl rfl (by decide) (fun w h => List.mem_cons_of_mem _ (zf_X6 w h)) rfl (List.mem_cons_of_mem _ zm_225) rfl dX6_node_62 ?_
      refine zz_iload_n X 2 dX6_node_65 rfl rfl ?_
      refine zz_iald X 3 1 rfl rfl (vp_in_nI (by omega) (by decide)) ((nI cb)) ((zn_ix (by omega)).trans ecb) dX6_node_66 ?_
      refine zz_iast X 4 1 rfl rfl (vp_in_nI (by omega) (by decide)) N1 (nI_clamp (by omega)) dX6_node_67 [(pa, .inl (cA 1, 12288, .inl (upd fpa N1 (nI a)))), (n0, .inr (6, [.ref h0, .ref tb, .ref pa, .ref nm, .ref ch, .ref sb, .int (nI (N1 + 1)), .ref wd, .ref bu, .ref ki, .ref ar, .ref le, .int fi, .int fd, .int fs, .int fb])), (nm, .inl (cA 1, 12288, .inl (upd fnm N1 sym))), (ch, .inl (cA 1, 12288, .inl fch)), (sb, .inl (cA 1, 12288, .inl (upd fsb N1 (nI cb))))] rfl ?_
      refine zz_aload_n X 1 dX6_node_68 rfl rfl ?_
      refine zz_get X 1 4 rfl rfl (by decide) (fun w h => List.mem_cons_of_mem _ (zf_X6 w h)) rfl (List.mem_cons_of_mem _ zm_225) rfl dX6_node_69 ?_
      refine zz_iload_n X 2 dX6_node_72 rfl rfl ?_
      refine zz_iload_n X 0 dX6_node_73 rfl rfl ?_
      refine zz_iast X 3 1 rfl rfl (vp_in_nI (by omega) (by decide)) a (nI_clamp (by omega)) dX6_node_74 [(pa, .inl (cA 1, 12288, .inl (upd fpa N1 (nI a)))), (n0, .inr (6, [.ref h0, .ref tb, .ref pa, .ref nm, .ref ch, .ref sb, .int (nI (N1 + 1)), .ref wd, .ref bu, .ref ki, .ref ar, .ref le, .int fi, .int fd, .int fs, .int fb])), (nm, .inl (cA 1, 12288, .inl (upd fnm N1 sym))), (ch, .inl (cA 1, 12288, .inl (upd fch a (nI N1)))), (sb, .inl (cA 1, 12288, .inl (upd fsb N1 (nI cb))))] rfl ?_
      refine zz_iload_n X 0 dX6_node_75 rfl rfl ?_
      exact zz_iret X hr (((N1 + 1), upd fpa N1 (nI a), upd fnm N1 sym, upd fch a (nI N1), upd fsb N1 (nI cb))) [1, 0, 2, 3, 4] (by decide) rfl rfl (Nat.le_of_ble_eq_true rfl) (Nat.le_of_ble_eq_true rfl) (⟨zNI_add hni hlt haN ecb hcb, Nat.le_succ _, ⟨N1, rfl, Nat.lt_succ_self _⟩⟩) dX6_node_76
    · skip
      refine zz_iload_n X 0 dX6_node_21 rfl rfl ?_
      refine zz_iconst X 0 dX6_node_22 rfl ?_
      refine zz_mmax X (0) (List.mem_cons_of_mem _ zm_269) (List.mem_cons_of_mem _ zm_270) (List.mem_cons_of_mem _ zm_258) (List.mem_cons_of_mem _ zm_271) (Nat.le_of_ble_eq_true rfl) (Nat.le_of_ble_eq_true rfl) (Nat.le_of_ble_eq_true rfl) (Nat.le_of_ble_eq_true rfl) dX6_node_23 (by decide) ?_
      exact zz_iret X hr ((N1, fpa, fnm, fch, fsb)) [1, 0, 2, 3, 4] (by decide) rfl rfl (Nat.le_of_ble_eq_true rfl) (Nat.le_of_ble_eq_true rfl) (⟨hni, Nat.le_refl _, ⟨0, rfl, hni.1⟩⟩) dX6_node_26
  · skip
    refine zz_istore_n X [(3, .int (nI b)), (0, .ref n0), (1, .int (nI a)), (2, .int sym)] dX6_node_6 rfl (by decide) rfl ?_
    refine zz_iload_n X 0 dX6_node_7 rfl rfl ?_
    refine zz_if_ge X 21 dX6_node_8 (by decide) (fun _ => ?_) (fun h => absurd (nI_pos' (by omega)) h)
    refine zz_iload_n X 0 dX6_node_21 rfl rfl ?_
    refine zz_iconst X 0 dX6_node_22 rfl ?_
    refine zz_mmax X ((nI b)) (List.mem_cons_of_mem _ zm_269) (List.mem_cons_of_mem _ zm_270) (List.mem_cons_of_mem _ zm_258) (List.mem_cons_of_mem _ zm_271) (Nat.le_of_ble_eq_true rfl) (Nat.le_of_ble_eq_true rfl) (Nat.le_of_ble_eq_true rfl) (Nat.le_of_ble_eq_true rfl) dX6_node_23 (if_neg (nI_pos (by omega))) ?_
    exact zz_iret X hr ((N1, fpa, fnm, fch, fsb)) [1, 0, 2, 3, 4] (by decide) rfl rfl (Nat.le_of_ble_eq_true rfl) (Nat.le_of_ble_eq_true rfl) (⟨hni, Nat.le_refl _, ⟨b, rfl, hb⟩⟩) dX6_node_26

set_option maxHeartbeats 4000000 in
set_option maxRecDepth 100000 in
/-- nodeOf: the node of a path -/
theorem kX6_nodeOf {E : zEn} (hE : zOk E) (l : Launch) (D : va_G) (cA : Nat → ClassId) (N : Nat) (len : List Nat) (byt : List (List Int32)) (K : Nat → Nat) (V : Nat → Nat) (i : Nat) (h0 : Nat) (hc : Nat) (ha : Nat) (hz : Nat) (used : Int32) (top : Int32) (end_ : Int32) (full : Int32) (k : Nat) (n0 : Nat) (tb : Nat) (pa : Nat) (nm : Nat) (ch : Nat) (sb : Nat) (wd : Nat) (bu : Nat) (ki : Nat) (ar : Nat) (le : Nat) (fi : Int32) (fd : Int32) (fs : Int32) (fb : Int32) (N1 : Nat) (fc : Nat → Int32) (ft : Nat → Int32) (fpa : Nat → Int32) (fnm : Nat → Int32) (fch : Nat → Int32) (fsb : Nat → Int32) (lf : Nat → Int32) (f : Nat) (g : Nat) (hs : zSt E N len byt K V) (hi : i < N) (hnt : zNT ft fc k) (hni : zNI fch fsb N1) (hfg : f ≤ g) (hg : g ≤ max f (len.getD i 0)) (hf : f < 2 ^ 30) : zMi E l yX6_nodeOf zwX6_nodeOf ({ frames := 5, cells := 0, slots := 0, locals := 136 }) D vwCl (zT cA) [.ref n0, .ref (K i), .int (nI f), .int (nI g)] [(n0, .inr (6, [.ref h0, .ref tb, .ref pa, .ref nm, .ref ch, .ref sb, .int (nI N1), .ref wd, .ref bu, .ref ki, .ref ar, .ref le, .int fi, .int fd, .int fs, .int fb])), (h0, .inr (4, [.ref hc, .ref ha, .ref hz, .int used, .int (nI k), .int top, .int end_, .int full])), (hc, .inl (cA 1, 886000, .inl fc)), (tb, .inl (cA 1, 16384, .inl ft)), (pa, .inl (cA 1, 12288, .inl fpa)), (nm, .inl (cA 1, 12288, .inl fnm)), (ch, .inl (cA 1, 12288, .inl fch)), (sb, .inl (cA 1, 12288, .inl fsb)), (le, .inl (cA 1, 32, .inl lf))] (S := (Nat → Int32) × Nat × (Nat → Int32) × Nat × (Nat → Int32) × (Nat → Int32) × (Nat → Int32) × (Nat → Int32) × (Nat → Int32)) (fun (r : Int32) (u : (Nat → Int32) × Nat × (Nat → Int32) × Nat × (Nat → Int32) × (Nat → Int32) × (Nat → Int32) × (Nat → Int32) × (Nat → Int32)) => (zNT u.1 u.2.2.1 u.2.1) ∧ (k ≤ u.2.1) ∧ (zNI u.2.2.2.2.2.2.1 u.2.2.2.2.2.2.2.1 u.2.2.2.1) ∧ (∃ b : Nat, r = nI b ∧ b < u.2.2.2.1) ∧ (∀ j : Nat, (60000 ≤ j ∨ j < 16) → u.2.2.1 j = fc j)) (fun (u : (Nat → Int32) × Nat × (Nat → Int32) × Nat × (Nat → Int32) × (Nat → Int32) × (Nat → Int32) × (Nat → Int32) × (Nat → Int32)) => [(n0, .inr (6, [.ref h0, .ref tb, .ref pa, .ref nm, .ref ch, .ref sb, .int (nI u.2.2.2.1), .ref wd, .ref bu, .ref ki, .ref ar, .ref le, .int fi, .int fd, .int fs, .int fb])), (h0, .inr (4, [.ref hc, .ref ha, .ref hz, .int used, .int (nI u.2.1), .int top, .int end_, .int full])), (hc, .inl (cA 1, 886000, .inl u.2.2.1)), (tb, .inl (cA 1, 16384, .inl u.1)), (pa, .inl (cA 1, 12288, .inl u.2.2.2.2.1)), (nm, .inl (cA 1, 12288, .inl u.2.2.2.2.2.1)), (ch, .inl (cA 1, 12288, .inl u.2.2.2.2.2.2.1)), (sb, .inl (cA 1, 12288, .inl u.2.2.2.2.2.2.2.1)), (le, .inl (cA 1, 32, .inl u.2.2.2.2.2.2.2.2))]) := by
  refine zz_enteri (cc := cX6_nodeOf) (lv := [(0, .ref n0), (1, .ref (K i)), (2, .int (nI f)), (3, .int (nI g))]) hE 7 (by decide) rfl (Nat.le_of_ble_eq_true rfl) rfl ?_
  intro p e s m args below meth c X hr hin
  refine zz_iconst X 0 dX6_nodeOf_0 rfl ?_
  refine zz_istore X [(4, .int 0), (0, .ref n0), (1, .ref (K i)), (2, .int (nI f)), (3, .int (nI g))] dX6_nodeOf_1 (by decide) rfl ?_
  refine zz_iload_n X 3 dX6_nodeOf_3 rfl rfl ?_
  refine zz_istore X [(5, .int (nI f)), (4, .int 0), (0, .ref n0), (1, .ref (K i)), (2, .int (nI f)), (3, .int (nI g))] dX6_nodeOf_4 (by decide) rfl ?_
  refine zz_iload_n X 4 dX6_nodeOf_6 rfl rfl ?_
  refine zz_istore X [(6, .int (nI f)), (5, .int (nI f)), (4, .int 0), (0, .ref n0), (1, .ref (K i)), (2, .int (nI f)), (3, .int (nI g))] dX6_nodeOf_7 (by decide) rfl ?_
  refine zz_ind (α := Nat × Nat × Nat × (Nat → Int32) × Nat × (Nat → Int32) × Nat × (Nat → Int32) × (Nat → Int32) × (Nat → Int32) × (Nat → Int32) × (Nat → Int32)) (fun zv => g + 1 - zv.1) (fun zv => f ≤ zv.2.2.1 ∧ zv.2.2.1 ≤ zv.1 ∧ zv.1 ≤ g + 1 ∧ zv.2.1 < zv.2.2.2.2.2.2.1 ∧ zNT zv.2.2.2.1 zv.2.2.2.2.2.1 zv.2.2.2.2.1 ∧ k ≤ zv.2.2.2.2.1 ∧ zNI zv.2.2.2.2.2.2.2.2.2.1 zv.2.2.2.2.2.2.2.2.2.2.1 zv.2.2.2.2.2.2.1 ∧ ∀ j : Nat, (60000 ≤ j ∨ j < 16) → zv.2.2.2.2.2.1 j = fc j) (fun zv => [(n0, .inr (6, [.ref h0, .ref tb, .ref pa, .ref nm, .ref ch, .ref sb, .int (nI zv.2.2.2.2.2.2.1), .ref wd, .ref bu, .ref ki, .ref ar, .ref le, .int fi, .int fd, .int fs, .int fb])), (h0, .inr (4, [.ref hc, .ref ha, .ref hz, .int used, .int (nI zv.2.2.2.2.1), .int top, .int end_, .int full])), (hc, .inl (cA 1, 886000, .inl zv.2.2.2.2.2.1)), (tb, .inl (cA 1, 16384, .inl zv.2.2.2.1)), (pa, .inl (cA 1, 12288, .inl zv.2.2.2.2.2.2.2.1)), (nm, .inl (cA 1, 12288, .inl zv.2.2.2.2.2.2.2.2.1)), (ch, .inl (cA 1, 12288, .inl zv.2.2.2.2.2.2.2.2.2.1)), (sb, .inl (cA 1, 12288, .inl zv.2.2.2.2.2.2.2.2.2.2.1)), (le, .inl (cA 1, 32, .inl zv.2.2.2.2.2.2.2.2.2.2.2))]) (fun zv => [(6, .int (nI zv.1)), (5, .int (nI zv.2.2.1)), (4, .int (nI zv.2.1)), (0, .ref n0), (1, .ref (K i)), (2, .int (nI f)), (3, .int (nI g))]) (fun zv => []) (f, 0, f, ft, k, fc, N1, fpa, fnm, fch, fsb, lf) (⟨Nat.le_refl _, Nat.le_refl _, by omega, hni.1, hnt, Nat.le_refl _, hni, fun _ _ => rfl⟩) rfl rfl rfl ?_
  intro zv hI_9 ih_9
  obtain ⟨z9, d9, t9, ft9, k9, fc9, N9, pa9, nm9, ch9, sb9, lf9⟩ := zv
  have hI_9 : f ≤ t9 ∧ t9 ≤ z9 ∧ z9 ≤ g + 1 ∧ d9 < N9 ∧ zNT ft9 fc9 k9 ∧ k ≤ k9 ∧ zNI ch9 sb9 N9 ∧ ∀ j : Nat, (60000 ≤ j ∨ j < 16) → fc9 j = fc j := hI_9
  refine zz_at (ws' := [(n0, .inr (6, [.ref h0, .ref tb, .ref pa, .ref nm, .ref ch, .ref sb, .int (nI N9), .ref wd, .ref bu, .ref ki, .ref ar, .ref le, .int fi, .int fd, .int fs, .int fb])), (h0, .inr (4, [.ref hc, .ref ha, .ref hz, .int used, .int (nI k9), .int top, .int end_, .int full])), (hc, .inl (cA 1, 886000, .inl fc9)), (tb, .inl (cA 1, 16384, .inl ft9)), (pa, .inl (cA 1, 12288, .inl pa9)), (nm, .inl (cA 1, 12288, .inl nm9)), (ch, .inl (cA 1, 12288, .inl ch9)), (sb, .inl (cA 1, 12288, .inl sb9)), (le, .inl (cA 1, 32, .inl lf9))]) (lv' := [(6, .int (nI z9)), (5, .int (nI t9)), (4, .int (nI d9)), (0, .ref n0), (1, .ref (K i)), (2, .int (nI f)), (3, .int (nI g))]) (st' := []) rfl rfl rfl ?_
  have hL := hs.2.2.2 i hi
  have hn12 := hI_9.2.2.2.2.2.2.1.2.1
  refine zz_iload X 0 dX6_nodeOf_9 rfl ?_
  refine zz_iload_n X 6 dX6_nodeOf_11 rfl rfl ?_
  refine zz_icmp_gt X 61 dX6_nodeOf_12 (by decide) (fun c12 => ?_) (fun c12 => ?_)
  · skip
    refine zz_iload X 2 dX6_nodeOf_61 rfl ?_
    exact zz_iret X hr ((ft9, k9, fc9, N9, pa9, nm9, ch9, sb9, lf9)) [0, 1, 2, 3, 4, 5, 6, 7, 8] (by decide) rfl rfl (Nat.le_of_ble_eq_true rfl) (Nat.le_of_ble_eq_true rfl) (⟨hI_9.2.2.2.2.1, hI_9.2.2.2.2.2.1, hI_9.2.2.2.2.2.2.1, ⟨d9, rfl, hI_9.2.2.2.1⟩, hI_9.2.2.2.2.2.2.2⟩) dX6_nodeOf_63
  · skip
    have hzg : z9 ≤ g := Nat.le_of_not_lt (fun h => c12 (nI_lt h (by omega)))
    refine zz_iload X 0 dX6_nodeOf_15 rfl ?_
    refine zz_iload_n X 6 dX6_nodeOf_17 rfl rfl ?_
    refine zz_icmp_eq X 32 dX6_nodeOf_18 (by decide) (fun c18 => ?_) (fun c18 => ?_)
    · skip
      have hzt : z9 = g := zn_eq c18 (by omega) (by omega)
      refine zz_aload_n X 3 dX6_nodeOf_32 rfl rfl ?_
      refine zz_iload X 2 dX6_nodeOf_33 rfl ?_
      refine zz_aload_n X 3 dX6_nodeOf_35 rfl rfl ?_
      refine zz_aload_n X 4 dX6_nodeOf_36 rfl rfl ?_
      refine zz_iload X 1 dX6_nodeOf_37 rfl ?_
      refine zz_iload X 0 dX6_nodeOf_39 rfl ?_
      refine zz_callVi X (rest := [.int (nI d9), .ref n0]) (As := [.ref (K i), .int (nI t9), .int (nI z9)]) (kX6_symOf hE l D cA N len byt K V i h0 hc ha hz used top end_ full k9 n0 tb pa nm ch sb (nI N9) wd bu ki ar le fi fd fs fb fc9 ft9 lf9 t9 z9 hs hi hI_9.2.2.2.2.1 (by omega) (by omega) (by omega)) 3 (zgV zm_253 zm_254 zm_255 zm_165 zm_252) rfl (by decide +kernel) [0, 1, 2, 3, 8] [4, 5, 6, 7] [(pa, .inl (cA 1, 12288, .inl pa9)), (nm, .inl (cA 1, 12288, .inl nm9)), (ch, .inl (cA 1, 12288, .inl ch9)), (sb, .inl (cA 1, 12288, .inl sb9))] rfl rfl (by decide) rfl (by decide) (by decide) ⟨Nat.le_of_ble_eq_true rfl, Nat.le_of_ble_eq_true rfl⟩ 0 rfl rfl rfl rfl rfl (Nat.le_of_ble_eq_true rfl) dX6_nodeOf_41 (Nat.le_of_ble_eq_true rfl) (Nat.le_of_ble_eq_true rfl) (fun r5 u7 hw6 => ?_)
      obtain ⟨ft21, k22, f23, lf24⟩ := u7
      refine zz_show (ws' := [(pa, .inl (cA 1, 12288, .inl pa9)), (nm, .inl (cA 1, 12288, .inl nm9)), (ch, .inl (cA 1, 12288, .inl ch9)), (sb, .inl (cA 1, 12288, .inl sb9)), (n0, .inr (6, [.ref h0, .ref tb, .ref pa, .ref nm, .ref ch, .ref sb, .int (nI N9), .ref wd, .ref bu, .ref ki, .ref ar, .ref le, .int fi, .int fd, .int fs, .int fb])), (h0, .inr (4, [.ref hc, .ref ha, .ref hz, .int used, .int (nI k22), .int top, .int end_, .int full])), (hc, .inl (cA 1, 886000, .inl f23)), (tb, .inl (cA 1, 16384, .inl ft21)), (le, .inl (cA 1, 32, .inl lf24))]) rfl ?_
      have hS9 := hw6
      refine zz_callVi X (rest := []) (As := [.int (nI d9), .int r5]) (kX6_node hE l D cA h0 n0 tb pa nm ch sb wd bu ki ar le fi fd fs fb N9 pa9 nm9 ch9 sb9 d9 r5 hI_9.2.2.2.2.2.2.1 (by omega)) 2 (zgV zm_262 zm_263 zm_264 zm_165 zm_261) rfl (by decide +kernel) [4, 0, 1, 2, 3] [5, 6, 7, 8] [(h0, .inr (4, [.ref hc, .ref ha, .ref hz, .int used, .int (nI k22), .int top, .int end_, .int full])), (hc, .inl (cA 1, 886000, .inl f23)), (tb, .inl (cA 1, 16384, .inl ft21)), (le, .inl (cA 1, 32, .inl lf24))] rfl rfl (by decide) rfl (by decide) (by decide) ⟨Nat.le_of_ble_eq_true rfl, Nat.le_of_ble_eq_true rfl⟩ 0 rfl rfl rfl rfl rfl (Nat.le_of_ble_eq_true rfl) dX6_nodeOf_44 (Nat.le_of_ble_eq_true rfl) (Nat.le_of_ble_eq_true rfl) (fun r13 u15 hw14 => ?_)
      obtain ⟨N28, fpa29, fnm210, fch211, fsb212⟩ := u15
      refine zz_show (ws' := [(h0, .inr (4, [.ref hc, .ref ha, .ref hz, .int used, .int (nI k22), .int top, .int end_, .int full])), (hc, .inl (cA 1, 886000, .inl f23)), (tb, .inl (cA 1, 16384, .inl ft21)), (le, .inl (cA 1, 32, .inl lf24)), (n0, .inr (6, [.ref h0, .ref tb, .ref pa, .ref nm, .ref ch, .ref sb, .int (nI N28), .ref wd, .ref bu, .ref ki, .ref ar, .ref le, .int fi, .int fd, .int fs, .int fb])), (pa, .inl (cA 1, 12288, .inl fpa29)), (nm, .inl (cA 1, 12288, .inl fnm210)), (ch, .inl (cA 1, 12288, .inl fch211)), (sb, .inl (cA 1, 12288, .inl fsb212))]) rfl ?_
      have hN9 := hw14
      obtain ⟨b9, eb9, hbN⟩ := hN9.2.2
      subst eb9
      refine zz_istore X [(4, .int (nI b9)), (6, .int (nI z9)), (5, .int (nI t9)), (0, .ref n0), (1, .ref (K i)), (2, .int (nI f)), (3, .int (nI g))] dX6_nodeOf_47 (by decide) rfl ?_
      refine zz_iload X 1 dX6_nodeOf_49 rfl ?_
      refine zz_iconst X 1 dX6_nodeOf_51 rfl ?_
      refine zz_iadd X ((nI (z9 + 1))) dX6_nodeOf_52 (nI_1 _) ?_
      refine zz_istore X [(5, .int (nI (z9 + 1))), (4, .int (nI b9)), (6, .int (nI z9)), (0, .ref n0), (1, .ref (K i)), (2, .int (nI f)), (3, .int (nI g))] dX6_nodeOf_53 (by decide) rfl ?_
      refine zz_iinc X 2 ((nI (z9 + 1))) [(6, .int (nI (z9 + 1))), (5, .int (nI (z9 + 1))), (4, .int (nI b9)), (0, .ref n0), (1, .ref (K i)), (2, .int (nI f)), (3, .int (nI g))] dX6_nodeOf_55 rfl (nI_1 _) (by decide) rfl ?_
      refine zz_goto X 9 dX6_nodeOf_58 (by decide) ?_
      refine zz_ws (ws' := [(n0, .inr (6, [.ref h0, .ref tb, .ref pa, .ref nm, .ref ch, .ref sb, .int (nI N28), .ref wd, .ref bu, .ref ki, .ref ar, .ref le, .int fi, .int fd, .int fs, .int fb])), (h0, .inr (4, [.ref hc, .ref ha, .ref hz, .int used, .int (nI k22), .int top, .int end_, .int full])), (hc, .inl (cA 1, 886000, .inl f23)), (tb, .inl (cA 1, 16384, .inl ft21)), (pa, .inl (cA 1, 12288, .inl fpa29)), (nm, .inl (cA 1, 12288, .inl fnm210)), (ch, .inl (cA 1, 12288, .inl fch211)), (sb, .inl (cA 1, 12288, .inl fsb212)), (le, .inl (cA 1, 32, .inl lf24))]) [4, 0, 1, 2, 5, 6, 7, 8, 3] (by decide) rfl rfl ?_
      exact ih_9 (z9 + 1, b9, (z9 + 1), ft21, k22, f23, N28, fpa29, fnm210, fch211, fsb212, lf24) (show f ≤ (z9 + 1) ∧ (z9 + 1) ≤ (z9 + 1) ∧ (z9 + 1) ≤ g + 1 ∧ b9 < N28 ∧ zNT ft21 f23 k22 ∧ k ≤ k22 ∧ zNI fch211 fsb212 N28 ∧ ∀ j : Nat, (60000 ≤ j ∨ j < 16) → f23 j = fc j from ⟨by omega, by omega, by omega, hbN, hS9.1, Nat.le_trans hI_9.2.2.2.2.2.1 hS9.2.1, hN9.1, fun j hj => (hS9.2.2.2 j hj).trans (hI_9.2.2.2.2.2.2.2 j hj)⟩) (show (g + 1 - (z9 + 1)) < (g + 1 - z9) from (by omega))
    · skip
      have hzn : z9 ≠ g := fun h => c18 (by rw [h])
      refine zz_aload_n X 4 dX6_nodeOf_21 rfl rfl ?_
      refine zz_iload X 0 dX6_nodeOf_22 rfl ?_
      refine zz_callTi X (rest := []) (As := [.int (nI z9)]) (kJ0_charAt hE l D cA N len byt K V i z9 hs hi (by omega)) 1 (zgV zm_247 zm_139 zm_140 zm_141 zm_137) rfl (by decide +kernel) [] [0, 1, 2, 3, 4, 5, 6, 7, 8] [(n0, .inr (6, [.ref h0, .ref tb, .ref pa, .ref nm, .ref ch, .ref sb, .int (nI N9), .ref wd, .ref bu, .ref ki, .ref ar, .ref le, .int fi, .int fd, .int fs, .int fb])), (h0, .inr (4, [.ref hc, .ref ha, .ref hz, .int used, .int (nI k9), .int top, .int end_, .int full])), (hc, .inl (cA 1, 886000, .inl fc9)), (tb, .inl (cA 1, 16384, .inl ft9)), (pa, .inl (cA 1, 12288, .inl pa9)), (nm, .inl (cA 1, 12288, .inl nm9)), (ch, .inl (cA 1, 12288, .inl ch9)), (sb, .inl (cA 1, 12288, .inl sb9)), (le, .inl (cA 1, 32, .inl lf9))] rfl rfl (by decide) rfl (by decide) (by decide) ⟨Nat.le_of_ble_eq_true rfl, Nat.le_of_ble_eq_true rfl⟩ (zz_recvS X hs hi) rfl rfl rfl (Nat.le_of_ble_eq_true rfl) dX6_nodeOf_24 (Nat.le_of_ble_eq_true rfl) (Nat.le_of_ble_eq_true rfl) (fun r16 _ hw17 => ?_)
      obtain rfl := hw17
      refine zz_show (ws' := [(n0, .inr (6, [.ref h0, .ref tb, .ref pa, .ref nm, .ref ch, .ref sb, .int (nI N9), .ref wd, .ref bu, .ref ki, .ref ar, .ref le, .int fi, .int fd, .int fs, .int fb])), (h0, .inr (4, [.ref hc, .ref ha, .ref hz, .int used, .int (nI k9), .int top, .int end_, .int full])), (hc, .inl (cA 1, 886000, .inl fc9)), (tb, .inl (cA 1, 16384, .inl ft9)), (pa, .inl (cA 1, 12288, .inl pa9)), (nm, .inl (cA 1, 12288, .inl nm9)), (ch, .inl (cA 1, 12288, .inl ch9)), (sb, .inl (cA 1, 12288, .inl sb9)), (le, .inl (cA 1, 32, .inl lf9))]) rfl ?_
      refine zz_bipush X 46 dX6_nodeOf_27 rfl ?_
      refine zz_icmp_ne X 55 dX6_nodeOf_29 (by decide) (fun c29 => ?_) (fun c29 => ?_)
      · skip
        refine zz_iinc X 0 ((nI (z9 + 1))) [(6, .int (nI (z9 + 1))), (5, .int (nI t9)), (4, .int (nI d9)), (0, .ref n0), (1, .ref (K i)), (2, .int (nI f)), (3, .int (nI g))] dX6_nodeOf_55 rfl (nI_1 _) (by decide) rfl ?_
        refine zz_goto X 9 dX6_nodeOf_58 (by decide) ?_
        exact ih_9 (z9 + 1, d9, t9, ft9, k9, fc9, N9, pa9, nm9, ch9, sb9, lf9) (show f ≤ t9 ∧ t9 ≤ (z9 + 1) ∧ (z9 + 1) ≤ g + 1 ∧ d9 < N9 ∧ zNT ft9 fc9 k9 ∧ k ≤ k9 ∧ zNI ch9 sb9 N9 ∧ ∀ j : Nat, (60000 ≤ j ∨ j < 16) → fc9 j = fc j from ⟨by omega, by omega, by omega, hI_9.2.2.2.1, hI_9.2.2.2.2.1, hI_9.2.2.2.2.2.1, hI_9.2.2.2.2.2.2.1, hI_9.2.2.2.2.2.2.2⟩) (show (g + 1 - (z9 + 1)) < (g + 1 - z9) from (by omega))
      · skip
        refine zz_aload_n X 3 dX6_nodeOf_32 rfl rfl ?_
        refine zz_iload X 2 dX6_nodeOf_33 rfl ?_
        refine zz_aload_n X 3 dX6_nodeOf_35 rfl rfl ?_
        refine zz_aload_n X 4 dX6_nodeOf_36 rfl rfl ?_
        refine zz_iload X 1 dX6_nodeOf_37 rfl ?_
        refine zz_iload X 0 dX6_nodeOf_39 rfl ?_
        refine zz_callVi X (rest := [.int (nI d9), .ref n0]) (As := [.ref (K i), .int (nI t9), .int (nI z9)]) (kX6_symOf hE l D cA N len byt K V i h0 hc ha hz used top end_ full k9 n0 tb pa nm ch sb (nI N9) wd bu ki ar le fi fd fs fb fc9 ft9 lf9 t9 z9 hs hi hI_9.2.2.2.2.1 (by omega) (by omega) (by omega)) 3 (zgV zm_253 zm_254 zm_255 zm_165 zm_252) rfl (by decide +kernel) [0, 1, 2, 3, 8] [4, 5, 6, 7] [(pa, .inl (cA 1, 12288, .inl pa9)), (nm, .inl (cA 1, 12288, .inl nm9)), (ch, .inl (cA 1, 12288, .inl ch9)), (sb, .inl (cA 1, 12288, .inl sb9))] rfl rfl (by decide) rfl (by decide) (by decide) ⟨Nat.le_of_ble_eq_true rfl, Nat.le_of_ble_eq_true rfl⟩ 0 rfl rfl rfl rfl rfl (Nat.le_of_ble_eq_true rfl) dX6_nodeOf_41 (Nat.le_of_ble_eq_true rfl) (Nat.le_of_ble_eq_true rfl) (fun r22 u24 hw23 => ?_)
        obtain ⟨ft218, k219, f220, lf221⟩ := u24
        refine zz_show (ws' := [(pa, .inl (cA 1, 12288, .inl pa9)), (nm, .inl (cA 1, 12288, .inl nm9)), (ch, .inl (cA 1, 12288, .inl ch9)), (sb, .inl (cA 1, 12288, .inl sb9)), (n0, .inr (6, [.ref h0, .ref tb, .ref pa, .ref nm, .ref ch, .ref sb, .int (nI N9), .ref wd, .ref bu, .ref ki, .ref ar, .ref le, .int fi, .int fd, .int fs, .int fb])), (h0, .inr (4, [.ref hc, .ref ha, .ref hz, .int used, .int (nI k219), .int top, .int end_, .int full])), (hc, .inl (cA 1, 886000, .inl f220)), (tb, .inl (cA 1, 16384, .inl ft218)), (le, .inl (cA 1, 32, .inl lf221))]) rfl ?_
        have hS9 := hw23
        refine zz_callVi X (rest := []) (As := [.int (nI d9), .int r22]) (kX6_node hE l D cA h0 n0 tb pa nm ch sb wd bu ki ar le fi fd fs fb N9 pa9 nm9 ch9 sb9 d9 r22 hI_9.2.2.2.2.2.2.1 (by omega)) 2 (zgV zm_262 zm_263 zm_264 zm_165 zm_261) rfl (by decide +kernel) [4, 0, 1, 2, 3] [5, 6, 7, 8] [(h0, .inr (4, [.ref hc, .ref ha, .ref hz, .int used, .int (nI k219), .int top, .int end_, .int full])), (hc, .inl (cA 1, 886000, .inl f220)), (tb, .inl (cA 1, 16384, .inl ft218)), (le, .inl (cA 1, 32, .inl lf221))] rfl rfl (by decide) rfl (by decide) (by decide) ⟨Nat.le_of_ble_eq_true rfl, Nat.le_of_ble_eq_true rfl⟩ 0 rfl rfl rfl rfl rfl (Nat.le_of_ble_eq_true rfl) dX6_nodeOf_44 (Nat.le_of_ble_eq_true rfl) (Nat.le_of_ble_eq_true rfl) (fun r30 u32 hw31 => ?_)
        obtain ⟨N225, fpa226, fnm227, fch228, fsb229⟩ := u32
        refine zz_show (ws' := [(h0, .inr (4, [.ref hc, .ref ha, .ref hz, .int used, .int (nI k219), .int top, .int end_, .int full])), (hc, .inl (cA 1, 886000, .inl f220)), (tb, .inl (cA 1, 16384, .inl ft218)), (le, .inl (cA 1, 32, .inl lf221)), (n0, .inr (6, [.ref h0, .ref tb, .ref pa, .ref nm, .ref ch, .ref sb, .int (nI N225), .ref wd, .ref bu, .ref ki, .ref ar, .ref le, .int fi, .int fd, .int fs, .int fb])), (pa, .inl (cA 1, 12288, .inl fpa226)), (nm, .inl (cA 1, 12288, .inl fnm227)), (ch, .inl (cA 1, 12288, .inl fch228)), (sb, .inl (cA 1, 12288, .inl fsb229))]) rfl ?_
        have hN9 := hw31
        obtain ⟨b9, eb9, hbN⟩ := hN9.2.2
        subst eb9
        refine zz_istore X [(4, .int (nI b9)), (6, .int (nI z9)), (5, .int (nI t9)), (0, .ref n0), (1, .ref (K i)), (2, .int (nI f)), (3, .int (nI g))] dX6_nodeOf_47 (by decide) rfl ?_
        refine zz_iload X 1 dX6_nodeOf_49 rfl ?_
        refine zz_iconst X 1 dX6_nodeOf_51 rfl ?_
        refine zz_iadd X ((nI (z9 + 1))) dX6_nodeOf_52 (nI_1 _) ?_
        refine zz_istore X [(5, .int (nI (z9 + 1))), (4, .int (nI b9)), (6, .int (nI z9)), (0, .ref n0), (1, .ref (K i)), (2, .int (nI f)), (3, .int (nI g))] dX6_nodeOf_53 (by decide) rfl ?_
        refine zz_iinc X 2 ((nI (z9 + 1))) [(6, .int (nI (z9 + 1))), (5, .int (nI (z9 + 1))), (4, .int (nI b9)), (0, .ref n0), (1, .ref (K i)), (2, .int (nI f)), (3, .int (nI g))] dX6_nodeOf_55 rfl (nI_1 _) (by decide) rfl ?_
        refine zz_goto X 9 dX6_nodeOf_58 (by decide) ?_
        refine zz_ws (ws' := [(n0, .inr (6, [.ref h0, .ref tb, .ref pa, .ref nm, .ref ch, .ref sb, .int (nI N225), .ref wd, .ref bu, .ref ki, .ref ar, .ref le, .int fi, .int fd, .int fs, .int fb])), (h0, .inr (4, [.ref hc, .ref ha, .ref hz, .int used, .int (nI k219), .int top, .int end_, .int full])), (hc, .inl (cA 1, 886000, .inl f220)), (tb, .inl (cA 1, 16384, .inl ft218)), (pa, .inl (cA 1, 12288, .inl fpa226)), (nm, .inl (cA 1, 12288, .inl fnm227)), (ch, .inl (cA 1, 12288, .inl fch228)), (sb, .inl (cA 1, 12288, .inl fsb229)), (le, .inl (cA 1, 32, .inl lf221))]) [4, 0, 1, 2, 5, 6, 7, 8, 3] (by decide) rfl rfl ?_
        exact ih_9 (z9 + 1, b9, (z9 + 1), ft218, k219, f220, N225, fpa226, fnm227, fch228, fsb229, lf221) (show f ≤ (z9 + 1) ∧ (z9 + 1) ≤ (z9 + 1) ∧ (z9 + 1) ≤ g + 1 ∧ b9 < N225 ∧ zNT ft218 f220 k219 ∧ k ≤ k219 ∧ zNI fch228 fsb229 N225 ∧ ∀ j : Nat, (60000 ≤ j ∨ j < 16) → f220 j = fc j from ⟨by omega, by omega, by omega, hbN, hS9.1, Nat.le_trans hI_9.2.2.2.2.2.1 hS9.2.1, hN9.1, fun j hj => (hS9.2.2.2 j hj).trans (hI_9.2.2.2.2.2.2.2 j hj)⟩) (show (g + 1 - (z9 + 1)) < (g + 1 - z9) from (by omega))

set_option maxHeartbeats 4000000 in
set_option maxRecDepth 100000 in
theorem zNT_0 {fc : Nat → Int32} {k : Nat} (h0 : zu4 (fc 0) = nI 0) (h1 : zu4 (fc 1) = nI 0) (h16 : 16 ≤ k) (hk : k ≤ 60000) : zNT (fun _ => 0) fc k := ⟨h16, hk, h1, fun _ _ => ⟨0, 0, rfl, by omega, h0, by omega⟩⟩
theorem zNI_0 : zNI (fun _ => 0) (fun _ => 0) 1 := ⟨Nat.le_refl _, by decide, fun _ _ => ⟨⟨0, rfl, by decide⟩, 0, rfl, Or.inl rfl⟩⟩

set_option maxHeartbeats 4000000 in
set_option maxRecDepth 100000 in
/-- Names(heap) -/
theorem kX6_init {E : zEn} (hE : zOk E) (l : Launch) (D : va_G) (cA : Nat → ClassId) (N : Nat) (len : List Nat) (byt : List (List Int32)) (K : Nat → Nat) (V : Nat → Nat) (iw : Nat) (ib : Nat) (tw : String) (tb8 : String) (h0 : Nat) (hc : Nat) (ha : Nat) (hz : Nat) (used : Int32) (top : Int32) (end_ : Int32) (full : Int32) (k : Nat) (fc : Nat → Int32) (n0 : Nat) (hs : zSt E N len byt K V) (hiw : iw < N) (hib : ib < N) (hrw : ∀ (A : Nat → Prop) (U : State) (H : Heap), E A U H → vk_R RX6 48 tw (K iw) U) (hrb : ∀ (A : Nat → Prop) (U : State) (H : Heap), E A U H → vk_R RX6 70 tb8 (K ib) U) (hz0 : zu4 (fc 0) = nI 0) (hz1 : zu4 (fc 1) = nI 0) (h16 : 16 ≤ k) (hk : k ≤ 60000) : zMv E l yX6_init zwX6_init ({ frames := 6, cells := 10, slots := 65983, locals := 162 }) D vwCl (zT cA) [.ref n0, .ref h0] [(n0, .inr (6, [.null, .null, .null, .null, .null, .null, .int 0, .null, .null, .null, .null, .null, .int 0, .int 0, .int 0, .int 0])), (h0, .inr (4, [.ref hc, .ref ha, .ref hz, .int used, .int (nI k), .int top, .int end_, .int full])), (hc, .inl (cA 1, 886000, .inl fc))] (S := Nat × Nat × Nat × Nat × Nat × Nat × Nat × Nat × Nat × Nat × Nat × Nat × (Nat → Int32) × (Nat → Int32) × (Nat → Int32) × (Nat → Int32) × (Nat → Int32) × (Nat → Int32) × (Nat → Int32) × (Nat → Int32) × (Nat → Int32) × (Nat → Int32) × (Nat → Int32) × Int32 × Int32 × Int32 × Int32) (fun (u : Nat × Nat × Nat × Nat × Nat × Nat × Nat × Nat × Nat × Nat × Nat × Nat × (Nat → Int32) × (Nat → Int32) × (Nat → Int32) × (Nat → Int32) × (Nat → Int32) × (Nat → Int32) × (Nat → Int32) × (Nat → Int32) × (Nat → Int32) × (Nat → Int32) × (Nat → Int32) × Int32 × Int32 × Int32 × Int32) => (zNT u.2.2.2.2.2.2.2.2.2.2.2.2.2.1 u.2.2.2.2.2.2.2.2.2.2.2.2.1 u.2.2.2.2.2.2.2.2.2.2.2.1) ∧ (zNI u.2.2.2.2.2.2.2.2.2.2.2.2.2.2.2.2.1 u.2.2.2.2.2.2.2.2.2.2.2.2.2.2.2.2.2.1 u.2.2.2.2.2.2.2.2.2.2.1) ∧ (k ≤ u.2.2.2.2.2.2.2.2.2.2.2.1) ∧ (∀ j : Nat, (60000 ≤ j ∨ j < 16) → u.2.2.2.2.2.2.2.2.2.2.2.2.1 j = fc j)) (fun (u : Nat × Nat × Nat × Nat × Nat × Nat × Nat × Nat × Nat × Nat × Nat × Nat × (Nat → Int32) × (Nat → Int32) × (Nat → Int32) × (Nat → Int32) × (Nat → Int32) × (Nat → Int32) × (Nat → Int32) × (Nat → Int32) × (Nat → Int32) × (Nat → Int32) × (Nat → Int32) × Int32 × Int32 × Int32 × Int32) => [(n0, .inr (6, [.ref h0, .ref u.1, .ref u.2.1, .ref u.2.2.1, .ref u.2.2.2.1, .ref u.2.2.2.2.1, .int (nI u.2.2.2.2.2.2.2.2.2.2.1), .ref u.2.2.2.2.2.1, .ref u.2.2.2.2.2.2.1, .ref u.2.2.2.2.2.2.2.1, .ref u.2.2.2.2.2.2.2.2.1, .ref u.2.2.2.2.2.2.2.2.2.1, .int u.2.2.2.2.2.2.2.2.2.2.2.2.2.2.2.2.2.2.2.2.2.2.2.1, .int u.2.2.2.2.2.2.2.2.2.2.2.2.2.2.2.2.2.2.2.2.2.2.2.2.1, .int u.2.2.2.2.2.2.2.2.2.2.2.2.2.2.2.2.2.2.2.2.2.2.2.2.2.1, .int u.2.2.2.2.2.2.2.2.2.2.2.2.2.2.2.2.2.2.2.2.2.2.2.2.2.2])), (h0, .inr (4, [.ref hc, .ref ha, .ref hz, .int used, .int (nI u.2.2.2.2.2.2.2.2.2.2.2.1), .int top, .int end_, .int full])), (hc, .inl (cA 1, 886000, .inl u.2.2.2.2.2.2.2.2.2.2.2.2.1)), (u.1, .inl (cA 1, 16384, .inl u.2.2.2.2.2.2.2.2.2.2.2.2.2.1)), (u.2.1, .inl (cA 1, 12288, .inl u.2.2.2.2.2.2.2.2.2.2.2.2.2.2.1)), (u.2.2.1, .inl (cA 1, 12288, .inl u.2.2.2.2.2.2.2.2.2.2.2.2.2.2.2.1)), (u.2.2.2.1, .inl (cA 1, 12288, .inl u.2.2.2.2.2.2.2.2.2.2.2.2.2.2.2.2.1)), (u.2.2.2.2.1, .inl (cA 1, 12288, .inl u.2.2.2.2.2.2.2.2.2.2.2.2.2.2.2.2.2.1)), (u.2.2.2.2.2.1, .inl (cA 1, 19, .inl u.2.2.2.2.2.2.2.2.2.2.2.2.2.2.2.2.2.2.1)), (u.2.2.2.2.2.2.1, .inl (cA 1, 256, .inl u.2.2.2.2.2.2.2.2.2.2.2.2.2.2.2.2.2.2.2.1)), (u.2.2.2.2.2.2.2.1, .inl (cA 1, 70, .inl u.2.2.2.2.2.2.2.2.2.2.2.2.2.2.2.2.2.2.2.2.1)), (u.2.2.2.2.2.2.2.2.1, .inl (cA 1, 70, .inl u.2.2.2.2.2.2.2.2.2.2.2.2.2.2.2.2.2.2.2.2.2.1)), (u.2.2.2.2.2.2.2.2.2.1, .inl (cA 1, 32, .inl u.2.2.2.2.2.2.2.2.2.2.2.2.2.2.2.2.2.2.2.2.2.2.1))]) := by
  refine zz_enterv (cc := cX6_init) (lv := [(0, .ref n0), (1, .ref h0)]) hE 6 (by decide) rfl (Nat.le_of_ble_eq_true rfl) rfl ?_
  intro p e s m args below meth c X hr hin
  refine zz_aload_n X 0 dX6_init_0 rfl rfl ?_
  refine zz_objInit X (List.mem_cons_of_mem _ zm_222) (List.mem_cons_of_mem _ zm_1) (List.mem_cons_of_mem _ zm_2) dX6_init_1 (Nat.le_of_ble_eq_true rfl) (Nat.le_of_ble_eq_true rfl) ?_
  refine zz_aload_n X 0 dX6_init_4 rfl rfl ?_
  refine zz_sipush X 16384 dX6_init_5 rfl ?_
  refine zz_newaI X 1 rfl 16384 (List.mem_cons_of_mem _ zm_9) (by decide) (by decide) (Nat.le_of_ble_eq_true rfl) (Nat.le_of_ble_eq_true rfl) (Nat.le_of_ble_eq_true rfl) dX6_init_8 (fun q1 => ?_)
  refine zz_show (ws' := [(n0, .inr (6, [.null, .null, .null, .null, .null, .null, .int 0, .null, .null, .null, .null, .null, .int 0, .int 0, .int 0, .int 0])), (h0, .inr (4, [.ref hc, .ref ha, .ref hz, .int used, .int (nI k), .int top, .int end_, .int full])), (hc, .inl (cA 1, 886000, .inl fc)), (q1, .inl (cA 1, 16384, .inl (fun _ => 0)))]) rfl ?_
  refine zz_putF X 0 1 rfl rfl (by decide) (fun w h => List.mem_cons_of_mem _ (zf_X6 w h)) rfl (List.mem_cons_of_mem _ zm_167) tyX6 tyX6_ok nmX6 rfl hin rfl (ty := (.array .int)) rfl rfl rfl (Nat.le_of_ble_eq_true rfl) dX6_init_10 [(n0, .inr (6, [.null, .ref q1, .null, .null, .null, .null, .int 0, .null, .null, .null, .null, .null, .int 0, .int 0, .int 0, .int 0])), (h0, .inr (4, [.ref hc, .ref ha, .ref hz, .int used, .int (nI k), .int top, .int end_, .int full])), (hc, .inl (cA 1, 886000, .inl fc)), (q1, .inl (cA 1, 16384, .inl (fun _ => 0)))] rfl ?_
  refine zz_aload_n X 0 dX6_init_13 rfl rfl ?_
  refine zz_sipush X 12288 dX6_init_14 rfl ?_
  refine zz_newaI X 1 rfl 12288 (List.mem_cons_of_mem _ zm_9) (by decide) (by decide) (Nat.le_of_ble_eq_true rfl) (Nat.le_of_ble_eq_true rfl) (Nat.le_of_ble_eq_true rfl) dX6_init_17 (fun q2 => ?_)
  refine zz_show (ws' := [(n0, .inr (6, [.null, .ref q1, .null, .null, .null, .null, .int 0, .null, .null, .null, .null, .null, .int 0, .int 0, .int 0, .int 0])), (h0, .inr (4, [.ref hc, .ref ha, .ref hz, .int used, .int (nI k), .int top, .int end_, .int full])), (hc, .inl (cA 1, 886000, .inl fc)), (q1, .inl (cA 1, 16384, .inl (fun _ => 0))), (q2, .inl (cA 1, 12288, .inl (fun _ => 0)))]) rfl ?_
  refine zz_putF X 0 2 rfl rfl (by decide) (fun w h => List.mem_cons_of_mem _ (zf_X6 w h)) rfl (List.mem_cons_of_mem _ zm_223) tyX6 tyX6_ok nmX6 rfl hin rfl (ty := (.array .int)) rfl rfl rfl (Nat.le_of_ble_eq_true rfl) dX6_init_19 [(n0, .inr (6, [.null, .ref q1, .ref q2, .null, .null, .null, .int 0, .null, .null, .null, .null, .null, .int 0, .int 0, .int 0, .int 0])), (h0, .inr (4, [.ref hc, .ref ha, .ref hz, .int used, .int (nI k), .int top, .int end_, .int full])), (hc, .inl (cA 1, 886000, .inl fc)), (q1, .inl (cA 1, 16384, .inl (fun _ => 0))), (q2, .inl (cA 1, 12288, .inl (fun _ => 0)))] rfl ?_
  refine zz_aload_n X 0 dX6_init_22 rfl rfl ?_
  refine zz_sipush X 12288 dX6_init_23 rfl ?_
  refine zz_newaI X 1 rfl 12288 (List.mem_cons_of_mem _ zm_9) (by decide) (by decide) (Nat.le_of_ble_eq_true rfl) (Nat.le_of_ble_eq_true rfl) (Nat.le_of_ble_eq_true rfl) dX6_init_26 (fun q3 => ?_)
  refine zz_show (ws' := [(n0, .inr (6, [.null, .ref q1, .ref q2, .null, .null, .null, .int 0, .null, .null, .null, .null, .null, .int 0, .int 0, .int 0, .int 0])), (h0, .inr (4, [.ref hc, .ref ha, .ref hz, .int used, .int (nI k), .int top, .int end_, .int full])), (hc, .inl (cA 1, 886000, .inl fc)), (q1, .inl (cA 1, 16384, .inl (fun _ => 0))), (q2, .inl (cA 1, 12288, .inl (fun _ => 0))), (q3, .inl (cA 1, 12288, .inl (fun _ => 0)))]) rfl ?_
  refine zz_putF X 0 3 rfl rfl (by decide) (fun w h => List.mem_cons_of_mem _ (zf_X6 w h)) rfl (List.mem_cons_of_mem _ zm_224) tyX6 tyX6_ok nmX6 rfl hin rfl (ty := (.array .int)) rfl rfl rfl (Nat.le_of_ble_eq_true rfl) dX6_init_28 [(n0, .inr (6, [.null, .ref q1, .ref q2, .ref q3, .null, .null, .int 0, .null, .null, .null, .null, .null, .int 0, .int 0, .int 0, .int 0])), (h0, .inr (4, [.ref hc, .ref ha, .ref hz, .int used, .int (nI k), .int top, .int end_, .int full])), (hc, .inl (cA 1, 886000, .inl fc)), (q1, .inl (cA 1, 16384, .inl (fun _ => 0))), (q2, .inl (cA 1, 12288, .inl (fun _ => 0))), (q3, .inl (cA 1, 12288, .inl (fun _ => 0)))] rfl ?_
  refine zz_aload_n X 0 dX6_init_31 rfl rfl ?_
  refine zz_sipush X 12288 dX6_init_32 rfl ?_
  refine zz_newaI X 1 rfl 12288 (List.mem_cons_of_mem _ zm_9) (by decide) (by decide) (Nat.le_of_ble_eq_true rfl) (Nat.le_of_ble_eq_true rfl) (Nat.le_of_ble_eq_true rfl) dX6_init_35 (fun q4 => ?_)
  refine zz_show (ws' := [(n0, .inr (6, [.null, .ref q1, .ref q2, .ref q3, .null, .null, .int 0, .null, .null, .null, .null, .null, .int 0, .int 0, .int 0, .int 0])), (h0, .inr (4, [.ref hc, .ref ha, .ref hz, .int used, .int (nI k), .int top, .int end_, .int full])), (hc, .inl (cA 1, 886000, .inl fc)), (q1, .inl (cA 1, 16384, .inl (fun _ => 0))), (q2, .inl (cA 1, 12288, .inl (fun _ => 0))), (q3, .inl (cA 1, 12288, .inl (fun _ => 0))), (q4, .inl (cA 1, 12288, .inl (fun _ => 0)))]) rfl ?_
  refine zz_putF X 0 4 rfl rfl (by decide) (fun w h => List.mem_cons_of_mem _ (zf_X6 w h)) rfl (List.mem_cons_of_mem _ zm_225) tyX6 tyX6_ok nmX6 rfl hin rfl (ty := (.array .int)) rfl rfl rfl (Nat.le_of_ble_eq_true rfl) dX6_init_37 [(n0, .inr (6, [.null, .ref q1, .ref q2, .ref q3, .ref q4, .null, .int 0, .null, .null, .null, .null, .null, .int 0, .int 0, .int 0, .int 0])), (h0, .inr (4, [.ref hc, .ref ha, .ref hz, .int used, .int (nI k), .int top, .int end_, .int full])), (hc, .inl (cA 1, 886000, .inl fc)), (q1, .inl (cA 1, 16384, .inl (fun _ => 0))), (q2, .inl (cA 1, 12288, .inl (fun _ => 0))), (q3, .inl (cA 1, 12288, .inl (fun _ => 0))), (q4, .inl (cA 1, 12288, .inl (fun _ => 0)))] rfl ?_
  refine zz_aload_n X 0 dX6_init_40 rfl rfl ?_
  refine zz_sipush X 12288 dX6_init_41 rfl ?_
  refine zz_newaI X 1 rfl 12288 (List.mem_cons_of_mem _ zm_9) (by decide) (by decide) (Nat.le_of_ble_eq_true rfl) (Nat.le_of_ble_eq_true rfl) (Nat.le_of_ble_eq_true rfl) dX6_init_44 (fun q5 => ?_)
  refine zz_show (ws' := [(n0, .inr (6, [.null, .ref q1, .ref q2, .ref q3, .ref q4, .null, .int 0, .null, .null, .null, .null, .null, .int 0, .int 0, .int 0, .int 0])), (h0, .inr (4, [.ref hc, .ref ha, .ref hz, .int used, .int (nI k), .int top, .int end_, .int full])), (hc, .inl (cA 1, 886000, .inl fc)), (q1, .inl (cA 1, 16384, .inl (fun _ => 0))), (q2, .inl (cA 1, 12288, .inl (fun _ => 0))), (q3, .inl (cA 1, 12288, .inl (fun _ => 0))), (q4, .inl (cA 1, 12288, .inl (fun _ => 0))), (q5, .inl (cA 1, 12288, .inl (fun _ => 0)))]) rfl ?_
  refine zz_putF X 0 5 rfl rfl (by decide) (fun w h => List.mem_cons_of_mem _ (zf_X6 w h)) rfl (List.mem_cons_of_mem _ zm_226) tyX6 tyX6_ok nmX6 rfl hin rfl (ty := (.array .int)) rfl rfl rfl (Nat.le_of_ble_eq_true rfl) dX6_init_46 [(n0, .inr (6, [.null, .ref q1, .ref q2, .ref q3, .ref q4, .ref q5, .int 0, .null, .null, .null, .null, .null, .int 0, .int 0, .int 0, .int 0])), (h0, .inr (4, [.ref hc, .ref ha, .ref hz, .int used, .int (nI k), .int top, .int end_, .int full])), (hc, .inl (cA 1, 886000, .inl fc)), (q1, .inl (cA 1, 16384, .inl (fun _ => 0))), (q2, .inl (cA 1, 12288, .inl (fun _ => 0))), (q3, .inl (cA 1, 12288, .inl (fun _ => 0))), (q4, .inl (cA 1, 12288, .inl (fun _ => 0))), (q5, .inl (cA 1, 12288, .inl (fun _ => 0)))] rfl ?_
  refine zz_aload_n X 0 dX6_init_49 rfl rfl ?_
  refine zz_iconst X 1 dX6_init_50 rfl ?_
  refine zz_put X 0 6 rfl rfl (by decide) (fun w h => List.mem_cons_of_mem _ (zf_X6 w h)) rfl (List.mem_cons_of_mem _ zm_227) tyX6 tyX6_ok nmX6 rfl (ty := .int) rfl rfl rfl (Nat.le_of_ble_eq_true rfl) dX6_init_51 [(n0, .inr (6, [.null, .ref q1, .ref q2, .ref q3, .ref q4, .ref q5, .int 1, .null, .null, .null, .null, .null, .int 0, .int 0, .int 0, .int 0])), (h0, .inr (4, [.ref hc, .ref ha, .ref hz, .int used, .int (nI k), .int top, .int end_, .int full])), (hc, .inl (cA 1, 886000, .inl fc)), (q1, .inl (cA 1, 16384, .inl (fun _ => 0))), (q2, .inl (cA 1, 12288, .inl (fun _ => 0))), (q3, .inl (cA 1, 12288, .inl (fun _ => 0))), (q4, .inl (cA 1, 12288, .inl (fun _ => 0))), (q5, .inl (cA 1, 12288, .inl (fun _ => 0)))] rfl ?_
  refine zz_aload_n X 0 dX6_init_54 rfl rfl ?_
  refine zz_bipush X 19 dX6_init_55 rfl ?_
  refine zz_newaI X 1 rfl 19 (List.mem_cons_of_mem _ zm_9) (by decide) (by decide) (Nat.le_of_ble_eq_true rfl) (Nat.le_of_ble_eq_true rfl) (Nat.le_of_ble_eq_true rfl) dX6_init_57 (fun q6 => ?_)
  refine zz_show (ws' := [(n0, .inr (6, [.null, .ref q1, .ref q2, .ref q3, .ref q4, .ref q5, .int 1, .null, .null, .null, .null, .null, .int 0, .int 0, .int 0, .int 0])), (h0, .inr (4, [.ref hc, .ref ha, .ref hz, .int used, .int (nI k), .int top, .int end_, .int full])), (hc, .inl (cA 1, 886000, .inl fc)), (q1, .inl (cA 1, 16384, .inl (fun _ => 0))), (q2, .inl (cA 1, 12288, .inl (fun _ => 0))), (q3, .inl (cA 1, 12288, .inl (fun _ => 0))), (q4, .inl (cA 1, 12288, .inl (fun _ => 0))), (q5, .inl (cA 1, 12288, .inl (fun _ => 0))), (q6, .inl (cA 1, 19, .inl (fun _ => 0)))]) rfl ?_
  refine zz_putF X 0 7 rfl rfl (by decide) (fun w h => List.mem_cons_of_mem _ (zf_X6 w h)) rfl (List.mem_cons_of_mem _ zm_228) tyX6 tyX6_ok nmX6 rfl hin rfl (ty := (.array .int)) rfl rfl rfl (Nat.le_of_ble_eq_true rfl) dX6_init_59 [(n0, .inr (6, [.null, .ref q1, .ref q2, .ref q3, .ref q4, .ref q5, .int 1, .ref q6, .null, .null, .null, .null, .int 0, .int 0, .int 0, .int 0])), (h0, .inr (4, [.ref hc, .ref ha, .ref hz, .int used, .int (nI k), .int top, .int end_, .int full])), (hc, .inl (cA 1, 886000, .inl fc)), (q1, .inl (cA 1, 16384, .inl (fun _ => 0))), (q2, .inl (cA 1, 12288, .inl (fun _ => 0))), (q3, .inl (cA 1, 12288, .inl (fun _ => 0))), (q4, .inl (cA 1, 12288, .inl (fun _ => 0))), (q5, .inl (cA 1, 12288, .inl (fun _ => 0))), (q6, .inl (cA 1, 19, .inl (fun _ => 0)))] rfl ?_
  refine zz_aload_n X 0 dX6_init_62 rfl rfl ?_
  refine zz_sipush X 256 dX6_init_63 rfl ?_
  refine zz_newaI X 1 rfl 256 (List.mem_cons_of_mem _ zm_9) (by decide) (by decide) (Nat.le_of_ble_eq_true rfl) (Nat.le_of_ble_eq_true rfl) (Nat.le_of_ble_eq_true rfl) dX6_init_66 (fun q7 => ?_)
  refine zz_show (ws' := [(n0, .inr (6, [.null, .ref q1, .ref q2, .ref q3, .ref q4, .ref q5, .int 1, .ref q6, .null, .null, .null, .null, .int 0, .int 0, .int 0, .int 0])), (h0, .inr (4, [.ref hc, .ref ha, .ref hz, .int used, .int (nI k), .int top, .int end_, .int full])), (hc, .inl (cA 1, 886000, .inl fc)), (q1, .inl (cA 1, 16384, .inl (fun _ => 0))), (q2, .inl (cA 1, 12288, .inl (fun _ => 0))), (q3, .inl (cA 1, 12288, .inl (fun _ => 0))), (q4, .inl (cA 1, 12288, .inl (fun _ => 0))), (q5, .inl (cA 1, 12288, .inl (fun _ => 0))), (q6, .inl (cA 1, 19, .inl (fun _ => 0))), (q7, .inl (cA 1, 256, .inl (fun _ => 0)))]) rfl ?_
  refine zz_putF X 0 8 rfl rfl (by decide) (fun w h => List.mem_cons_of_mem _ (zf_X6 w h)) rfl (List.mem_cons_of_mem _ zm_229) tyX6 tyX6_ok nmX6 rfl hin rfl (ty := (.array .int)) rfl rfl rfl (Nat.le_of_ble_eq_true rfl) dX6_init_68 [(n0, .inr (6, [.null, .ref q1, .ref q2, .ref q3, .ref q4, .ref q5, .int 1, .ref q6, .ref q7, .null, .null, .null, .int 0, .int 0, .int 0, .int 0])), (h0, .inr (4, [.ref hc, .ref ha, .ref hz, .int used, .int (nI k), .int top, .int end_, .int full])), (hc, .inl (cA 1, 886000, .inl fc)), (q1, .inl (cA 1, 16384, .inl (fun _ => 0))), (q2, .inl (cA 1, 12288, .inl (fun _ => 0))), (q3, .inl (cA 1, 12288, .inl (fun _ => 0))), (q4, .inl (cA 1, 12288, .inl (fun _ => 0))), (q5, .inl (cA 1, 12288, .inl (fun _ => 0))), (q6, .inl (cA 1, 19, .inl (fun _ => 0))), (q7, .inl (cA 1, 256, .inl (fun _ => 0)))] rfl ?_
  refine zz_aload_n X 0 dX6_init_71 rfl rfl ?_
  refine zz_bipush X 70 dX6_init_72 rfl ?_
  refine zz_newaI X 1 rfl 70 (List.mem_cons_of_mem _ zm_9) (by decide) (by decide) (Nat.le_of_ble_eq_true rfl) (Nat.le_of_ble_eq_true rfl) (Nat.le_of_ble_eq_true rfl) dX6_init_74 (fun q8 => ?_)
  refine zz_show (ws' := [(n0, .inr (6, [.null, .ref q1, .ref q2, .ref q3, .ref q4, .ref q5, .int 1, .ref q6, .ref q7, .null, .null, .null, .int 0, .int 0, .int 0, .int 0])), (h0, .inr (4, [.ref hc, .ref ha, .ref hz, .int used, .int (nI k), .int top, .int end_, .int full])), (hc, .inl (cA 1, 886000, .inl fc)), (q1, .inl (cA 1, 16384, .inl (fun _ => 0))), (q2, .inl (cA 1, 12288, .inl (fun _ => 0))), (q3, .inl (cA 1, 12288, .inl (fun _ => 0))), (q4, .inl (cA 1, 12288, .inl (fun _ => 0))), (q5, .inl (cA 1, 12288, .inl (fun _ => 0))), (q6, .inl (cA 1, 19, .inl (fun _ => 0))), (q7, .inl (cA 1, 256, .inl (fun _ => 0))), (q8, .inl (cA 1, 70, .inl (fun _ => 0)))]) rfl ?_
  refine zz_putF X 0 9 rfl rfl (by decide) (fun w h => List.mem_cons_of_mem _ (zf_X6 w h)) rfl (List.mem_cons_of_mem _ zm_230) tyX6 tyX6_ok nmX6 rfl hin rfl (ty := (.array .int)) rfl rfl rfl (Nat.le_of_ble_eq_true rfl) dX6_init_76 [(n0, .inr (6, [.null, .ref q1, .ref q2, .ref q3, .ref q4, .ref q5, .int 1, .ref q6, .ref q7, .ref q8, .null, .null, .int 0, .int 0, .int 0, .int 0])), (h0, .inr (4, [.ref hc, .ref ha, .ref hz, .int used, .int (nI k), .int top, .int end_, .int full])), (hc, .inl (cA 1, 886000, .inl fc)), (q1, .inl (cA 1, 16384, .inl (fun _ => 0))), (q2, .inl (cA 1, 12288, .inl (fun _ => 0))), (q3, .inl (cA 1, 12288, .inl (fun _ => 0))), (q4, .inl (cA 1, 12288, .inl (fun _ => 0))), (q5, .inl (cA 1, 12288, .inl (fun _ => 0))), (q6, .inl (cA 1, 19, .inl (fun _ => 0))), (q7, .inl (cA 1, 256, .inl (fun _ => 0))), (q8, .inl (cA 1, 70, .inl (fun _ => 0)))] rfl ?_
  refine zz_aload_n X 0 dX6_init_79 rfl rfl ?_
  refine zz_bipush X 70 dX6_init_80 rfl ?_
  refine zz_newaI X 1 rfl 70 (List.mem_cons_of_mem _ zm_9) (by decide) (by decide) (Nat.le_of_ble_eq_true rfl) (Nat.le_of_ble_eq_true rfl) (Nat.le_of_ble_eq_true rfl) dX6_init_82 (fun q9 => ?_)
  refine zz_show (ws' := [(n0, .inr (6, [.null, .ref q1, .ref q2, .ref q3, .ref q4, .ref q5, .int 1, .ref q6, .ref q7, .ref q8, .null, .null, .int 0, .int 0, .int 0, .int 0])), (h0, .inr (4, [.ref hc, .ref ha, .ref hz, .int used, .int (nI k), .int top, .int end_, .int full])), (hc, .inl (cA 1, 886000, .inl fc)), (q1, .inl (cA 1, 16384, .inl (fun _ => 0))), (q2, .inl (cA 1, 12288, .inl (fun _ => 0))), (q3, .inl (cA 1, 12288, .inl (fun _ => 0))), (q4, .inl (cA 1, 12288, .inl (fun _ => 0))), (q5, .inl (cA 1, 12288, .inl (fun _ => 0))), (q6, .inl (cA 1, 19, .inl (fun _ => 0))), (q7, .inl (cA 1, 256, .inl (fun _ => 0))), (q8, .inl (cA 1, 70, .inl (fun _ => 0))), (q9, .inl (cA 1, 70, .inl (fun _ => 0)))]) rfl ?_
  refine zz_putF X 0 10 rfl rfl (by decide) (fun w h => List.mem_cons_of_mem _ (zf_X6 w h)) rfl (List.mem_cons_of_mem _ zm_231) tyX6 tyX6_ok nmX6 rfl hin rfl (ty := (.array .int)) rfl rfl rfl (Nat.le_of_ble_eq_true rfl) dX6_init_84 [(n0, .inr (6, [.null, .ref q1, .ref q2, .ref q3, .ref q4, .ref q5, .int 1, .ref q6, .ref q7, .ref q8, .ref q9, .null, .int 0, .int 0, .int 0, .int 0])), (h0, .inr (4, [.ref hc, .ref ha, .ref hz, .int used, .int (nI k), .int top, .int end_, .int full])), (hc, .inl (cA 1, 886000, .inl fc)), (q1, .inl (cA 1, 16384, .inl (fun _ => 0))), (q2, .inl (cA 1, 12288, .inl (fun _ => 0))), (q3, .inl (cA 1, 12288, .inl (fun _ => 0))), (q4, .inl (cA 1, 12288, .inl (fun _ => 0))), (q5, .inl (cA 1, 12288, .inl (fun _ => 0))), (q6, .inl (cA 1, 19, .inl (fun _ => 0))), (q7, .inl (cA 1, 256, .inl (fun _ => 0))), (q8, .inl (cA 1, 70, .inl (fun _ => 0))), (q9, .inl (cA 1, 70, .inl (fun _ => 0)))] rfl ?_
  refine zz_aload_n X 0 dX6_init_87 rfl rfl ?_
  refine zz_bipush X 32 dX6_init_88 rfl ?_
  refine zz_newaI X 1 rfl 32 (List.mem_cons_of_mem _ zm_9) (by decide) (by decide) (Nat.le_of_ble_eq_true rfl) (Nat.le_of_ble_eq_true rfl) (Nat.le_of_ble_eq_true rfl) dX6_init_90 (fun q10 => ?_)
  refine zz_show (ws' := [(n0, .inr (6, [.null, .ref q1, .ref q2, .ref q3, .ref q4, .ref q5, .int 1, .ref q6, .ref q7, .ref q8, .ref q9, .null, .int 0, .int 0, .int 0, .int 0])), (h0, .inr (4, [.ref hc, .ref ha, .ref hz, .int used, .int (nI k), .int top, .int end_, .int full])), (hc, .inl (cA 1, 886000, .inl fc)), (q1, .inl (cA 1, 16384, .inl (fun _ => 0))), (q2, .inl (cA 1, 12288, .inl (fun _ => 0))), (q3, .inl (cA 1, 12288, .inl (fun _ => 0))), (q4, .inl (cA 1, 12288, .inl (fun _ => 0))), (q5, .inl (cA 1, 12288, .inl (fun _ => 0))), (q6, .inl (cA 1, 19, .inl (fun _ => 0))), (q7, .inl (cA 1, 256, .inl (fun _ => 0))), (q8, .inl (cA 1, 70, .inl (fun _ => 0))), (q9, .inl (cA 1, 70, .inl (fun _ => 0))), (q10, .inl (cA 1, 32, .inl (fun _ => 0)))]) rfl ?_
  refine zz_putF X 0 11 rfl rfl (by decide) (fun w h => List.mem_cons_of_mem _ (zf_X6 w h)) rfl (List.mem_cons_of_mem _ zm_232) tyX6 tyX6_ok nmX6 rfl hin rfl (ty := (.array .int)) rfl rfl rfl (Nat.le_of_ble_eq_true rfl) dX6_init_92 [(n0, .inr (6, [.null, .ref q1, .ref q2, .ref q3, .ref q4, .ref q5, .int 1, .ref q6, .ref q7, .ref q8, .ref q9, .ref q10, .int 0, .int 0, .int 0, .int 0])), (h0, .inr (4, [.ref hc, .ref ha, .ref hz, .int used, .int (nI k), .int top, .int end_, .int full])), (hc, .inl (cA 1, 886000, .inl fc)), (q1, .inl (cA 1, 16384, .inl (fun _ => 0))), (q2, .inl (cA 1, 12288, .inl (fun _ => 0))), (q3, .inl (cA 1, 12288, .inl (fun _ => 0))), (q4, .inl (cA 1, 12288, .inl (fun _ => 0))), (q5, .inl (cA 1, 12288, .inl (fun _ => 0))), (q6, .inl (cA 1, 19, .inl (fun _ => 0))), (q7, .inl (cA 1, 256, .inl (fun _ => 0))), (q8, .inl (cA 1, 70, .inl (fun _ => 0))), (q9, .inl (cA 1, 70, .inl (fun _ => 0))), (q10, .inl (cA 1, 32, .inl (fun _ => 0)))] rfl ?_
  refine zz_aload_n X 0 dX6_init_95 rfl rfl ?_
  refine zz_aload_n X 1 dX6_init_96 rfl rfl ?_
  refine zz_putF X 0 0 rfl rfl (by decide) (fun w h => List.mem_cons_of_mem _ (zf_X6 w h)) rfl (List.mem_cons_of_mem _ zm_172) tyX6 tyX6_ok nmX6 rfl hin rfl (ty := (.object "PolicyHouse$Heap")) rfl rfl rfl (Nat.le_of_ble_eq_true rfl) dX6_init_97 [(n0, .inr (6, [.ref h0, .ref q1, .ref q2, .ref q3, .ref q4, .ref q5, .int 1, .ref q6, .ref q7, .ref q8, .ref q9, .ref q10, .int 0, .int 0, .int 0, .int 0])), (h0, .inr (4, [.ref hc, .ref ha, .ref hz, .int used, .int (nI k), .int top, .int end_, .int full])), (hc, .inl (cA 1, 886000, .inl fc)), (q1, .inl (cA 1, 16384, .inl (fun _ => 0))), (q2, .inl (cA 1, 12288, .inl (fun _ => 0))), (q3, .inl (cA 1, 12288, .inl (fun _ => 0))), (q4, .inl (cA 1, 12288, .inl (fun _ => 0))), (q5, .inl (cA 1, 12288, .inl (fun _ => 0))), (q6, .inl (cA 1, 19, .inl (fun _ => 0))), (q7, .inl (cA 1, 256, .inl (fun _ => 0))), (q8, .inl (cA 1, 70, .inl (fun _ => 0))), (q9, .inl (cA 1, 70, .inl (fun _ => 0))), (q10, .inl (cA 1, 32, .inl (fun _ => 0)))] rfl ?_
  refine zz_iconst X 0 dX6_init_100 rfl ?_
  refine zz_istore_n X [(2, .int 0), (0, .ref n0), (1, .ref h0)] dX6_init_101 rfl (by decide) rfl ?_
  refine zz_iconst X 0 dX6_init_102 rfl ?_
  refine zz_istore_n X [(3, .int 0), (2, .int 0), (0, .ref n0), (1, .ref h0)] dX6_init_103 rfl (by decide) rfl ?_
  refine zz_ind (α := Nat × Nat × (Nat → Int32) × Nat × (Nat → Int32) × (Nat → Int32) × (Nat → Int32)) (fun zv => 19 - zv.1) (fun zv => zv.1 ≤ 19 ∧ zv.2.1 ≤ len.getD iw 0 + 1 + zv.1 ∧ zNT zv.2.2.1 zv.2.2.2.2.1 zv.2.2.2.1 ∧ k ≤ zv.2.2.2.1 ∧ ∀ j : Nat, (60000 ≤ j ∨ j < 16) → zv.2.2.2.2.1 j = fc j) (fun zv => [(n0, .inr (6, [.ref h0, .ref q1, .ref q2, .ref q3, .ref q4, .ref q5, .int 1, .ref q6, .ref q7, .ref q8, .ref q9, .ref q10, .int 0, .int 0, .int 0, .int 0])), (h0, .inr (4, [.ref hc, .ref ha, .ref hz, .int used, .int (nI zv.2.2.2.1), .int top, .int end_, .int full])), (hc, .inl (cA 1, 886000, .inl zv.2.2.2.2.1)), (q1, .inl (cA 1, 16384, .inl zv.2.2.1)), (q2, .inl (cA 1, 12288, .inl (fun _ => 0))), (q3, .inl (cA 1, 12288, .inl (fun _ => 0))), (q4, .inl (cA 1, 12288, .inl (fun _ => 0))), (q5, .inl (cA 1, 12288, .inl (fun _ => 0))), (q6, .inl (cA 1, 19, .inl zv.2.2.2.2.2.2)), (q7, .inl (cA 1, 256, .inl (fun _ => 0))), (q8, .inl (cA 1, 70, .inl (fun _ => 0))), (q9, .inl (cA 1, 70, .inl (fun _ => 0))), (q10, .inl (cA 1, 32, .inl zv.2.2.2.2.2.1))]) (fun zv => [(3, .int (nI zv.1)), (2, .int (nI zv.2.1)), (0, .ref n0), (1, .ref h0)]) (fun zv => []) (0, 0, fun _ => 0, k, fc, fun _ => 0, fun _ => 0) (⟨Nat.zero_le _, Nat.zero_le _, zNT_0 hz0 hz1 h16 hk, Nat.le_refl _, fun _ _ => rfl⟩) rfl rfl rfl ?_
  intro zv hI_104 ih_104
  obtain ⟨i9, t9, ft9, k9, fc9, lf9, wf9⟩ := zv
  have hI_104 : i9 ≤ 19 ∧ t9 ≤ len.getD iw 0 + 1 + i9 ∧ zNT ft9 fc9 k9 ∧ k ≤ k9 ∧ ∀ j : Nat, (60000 ≤ j ∨ j < 16) → fc9 j = fc j := hI_104
  refine zz_at (ws' := [(n0, .inr (6, [.ref h0, .ref q1, .ref q2, .ref q3, .ref q4, .ref q5, .int 1, .ref q6, .ref q7, .ref q8, .ref q9, .ref q10, .int 0, .int 0, .int 0, .int 0])), (h0, .inr (4, [.ref hc, .ref ha, .ref hz, .int used, .int (nI k9), .int top, .int end_, .int full])), (hc, .inl (cA 1, 886000, .inl fc9)), (q1, .inl (cA 1, 16384, .inl ft9)), (q2, .inl (cA 1, 12288, .inl (fun _ => 0))), (q3, .inl (cA 1, 12288, .inl (fun _ => 0))), (q4, .inl (cA 1, 12288, .inl (fun _ => 0))), (q5, .inl (cA 1, 12288, .inl (fun _ => 0))), (q6, .inl (cA 1, 19, .inl wf9)), (q7, .inl (cA 1, 256, .inl (fun _ => 0))), (q8, .inl (cA 1, 70, .inl (fun _ => 0))), (q9, .inl (cA 1, 70, .inl (fun _ => 0))), (q10, .inl (cA 1, 32, .inl lf9))]) (lv' := [(3, .int (nI i9)), (2, .int (nI t9)), (0, .ref n0), (1, .ref h0)]) (st' := []) rfl rfl rfl ?_
  have hL := hs.2.2.2 iw hiw
  refine zz_iload_n X 0 dX6_init_104 rfl rfl ?_
  refine zz_bipush X 19 dX6_init_105 rfl ?_
  refine zz_icmp_ge X 144 dX6_init_107 (by decide) (fun c107 => ?_) (fun c107 => ?_)
  · skip
    refine zz_aload_n X 2 dX6_init_144 rfl rfl ?_
    refine zz_aload_n X 2 dX6_init_145 rfl rfl ?_
    refine zz_get X 0 7 rfl rfl (by decide) (fun w h => List.mem_cons_of_mem _ (zf_X6 w h)) rfl (List.mem_cons_of_mem _ zm_228) rfl dX6_init_146 ?_
    refine zz_bipush X 15 dX6_init_149 rfl ?_
    refine zz_iald X 8 1 rfl rfl (vp_in_nI (n := 15) (by decide) (by decide)) ((wf9 15)) rfl dX6_init_151 ?_
    refine zz_putF X 0 12 rfl rfl (by decide) (fun w h => List.mem_cons_of_mem _ (zf_X6 w h)) rfl (List.mem_cons_of_mem _ zm_233) tyX6 tyX6_ok nmX6 rfl hin rfl (ty := .int) rfl rfl rfl (Nat.le_of_ble_eq_true rfl) dX6_init_152 [(n0, .inr (6, [.ref h0, .ref q1, .ref q2, .ref q3, .ref q4, .ref q5, .int 1, .ref q6, .ref q7, .ref q8, .ref q9, .ref q10, .int (wf9 15), .int 0, .int 0, .int 0])), (h0, .inr (4, [.ref hc, .ref ha, .ref hz, .int used, .int (nI k9), .int top, .int end_, .int full])), (hc, .inl (cA 1, 886000, .inl fc9)), (q1, .inl (cA 1, 16384, .inl ft9)), (q2, .inl (cA 1, 12288, .inl (fun _ => 0))), (q3, .inl (cA 1, 12288, .inl (fun _ => 0))), (q4, .inl (cA 1, 12288, .inl (fun _ => 0))), (q5, .inl (cA 1, 12288, .inl (fun _ => 0))), (q6, .inl (cA 1, 19, .inl wf9)), (q7, .inl (cA 1, 256, .inl (fun _ => 0))), (q8, .inl (cA 1, 70, .inl (fun _ => 0))), (q9, .inl (cA 1, 70, .inl (fun _ => 0))), (q10, .inl (cA 1, 32, .inl lf9))] rfl ?_
    refine zz_aload_n X 2 dX6_init_155 rfl rfl ?_
    refine zz_aload_n X 2 dX6_init_156 rfl rfl ?_
    refine zz_get X 0 7 rfl rfl (by decide) (fun w h => List.mem_cons_of_mem _ (zf_X6 w h)) rfl (List.mem_cons_of_mem _ zm_228) rfl dX6_init_157 ?_
    refine zz_bipush X 16 dX6_init_160 rfl ?_
    refine zz_iald X 8 1 rfl rfl (vp_in_nI (n := 16) (by decide) (by decide)) ((wf9 16)) rfl dX6_init_162 ?_
    refine zz_putF X 0 13 rfl rfl (by decide) (fun w h => List.mem_cons_of_mem _ (zf_X6 w h)) rfl (List.mem_cons_of_mem _ zm_234) tyX6 tyX6_ok nmX6 rfl hin rfl (ty := .int) rfl rfl rfl (Nat.le_of_ble_eq_true rfl) dX6_init_163 [(n0, .inr (6, [.ref h0, .ref q1, .ref q2, .ref q3, .ref q4, .ref q5, .int 1, .ref q6, .ref q7, .ref q8, .ref q9, .ref q10, .int (wf9 15), .int (wf9 16), .int 0, .int 0])), (h0, .inr (4, [.ref hc, .ref ha, .ref hz, .int used, .int (nI k9), .int top, .int end_, .int full])), (hc, .inl (cA 1, 886000, .inl fc9)), (q1, .inl (cA 1, 16384, .inl ft9)), (q2, .inl (cA 1, 12288, .inl (fun _ => 0))), (q3, .inl (cA 1, 12288, .inl (fun _ => 0))), (q4, .inl (cA 1, 12288, .inl (fun _ => 0))), (q5, .inl (cA 1, 12288, .inl (fun _ => 0))), (q6, .inl (cA 1, 19, .inl wf9)), (q7, .inl (cA 1, 256, .inl (fun _ => 0))), (q8, .inl (cA 1, 70, .inl (fun _ => 0))), (q9, .inl (cA 1, 70, .inl (fun _ => 0))), (q10, .inl (cA 1, 32, .inl lf9))] rfl ?_
    refine zz_aload_n X 2 dX6_init_166 rfl rfl ?_
    refine zz_aload_n X 2 dX6_init_167 rfl rfl ?_
    refine zz_get X 0 7 rfl rfl (by decide) (fun w h => List.mem_cons_of_mem _ (zf_X6 w h)) rfl (List.mem_cons_of_mem _ zm_228) rfl dX6_init_168 ?_
    refine zz_bipush X 17 dX6_init_171 rfl ?_
    refine zz_iald X 8 1 rfl rfl (vp_in_nI (n := 17) (by decide) (by decide)) ((wf9 17)) rfl dX6_init_173 ?_
    refine zz_putF X 0 14 rfl rfl (by decide) (fun w h => List.mem_cons_of_mem _ (zf_X6 w h)) rfl (List.mem_cons_of_mem _ zm_235) tyX6 tyX6_ok nmX6 rfl hin rfl (ty := .int) rfl rfl rfl (Nat.le_of_ble_eq_true rfl) dX6_init_174 [(n0, .inr (6, [.ref h0, .ref q1, .ref q2, .ref q3, .ref q4, .ref q5, .int 1, .ref q6, .ref q7, .ref q8, .ref q9, .ref q10, .int (wf9 15), .int (wf9 16), .int (wf9 17), .int 0])), (h0, .inr (4, [.ref hc, .ref ha, .ref hz, .int used, .int (nI k9), .int top, .int end_, .int full])), (hc, .inl (cA 1, 886000, .inl fc9)), (q1, .inl (cA 1, 16384, .inl ft9)), (q2, .inl (cA 1, 12288, .inl (fun _ => 0))), (q3, .inl (cA 1, 12288, .inl (fun _ => 0))), (q4, .inl (cA 1, 12288, .inl (fun _ => 0))), (q5, .inl (cA 1, 12288, .inl (fun _ => 0))), (q6, .inl (cA 1, 19, .inl wf9)), (q7, .inl (cA 1, 256, .inl (fun _ => 0))), (q8, .inl (cA 1, 70, .inl (fun _ => 0))), (q9, .inl (cA 1, 70, .inl (fun _ => 0))), (q10, .inl (cA 1, 32, .inl lf9))] rfl ?_
    refine zz_aload_n X 2 dX6_init_177 rfl rfl ?_
    refine zz_aload_n X 2 dX6_init_178 rfl rfl ?_
    refine zz_get X 0 7 rfl rfl (by decide) (fun w h => List.mem_cons_of_mem _ (zf_X6 w h)) rfl (List.mem_cons_of_mem _ zm_228) rfl dX6_init_179 ?_
    refine zz_bipush X 18 dX6_init_182 rfl ?_
    refine zz_iald X 8 1 rfl rfl (vp_in_nI (n := 18) (by decide) (by decide)) ((wf9 18)) rfl dX6_init_184 ?_
    refine zz_putF X 0 15 rfl rfl (by decide) (fun w h => List.mem_cons_of_mem _ (zf_X6 w h)) rfl (List.mem_cons_of_mem _ zm_166) tyX6 tyX6_ok nmX6 rfl hin rfl (ty := .int) rfl rfl rfl (Nat.le_of_ble_eq_true rfl) dX6_init_185 [(n0, .inr (6, [.ref h0, .ref q1, .ref q2, .ref q3, .ref q4, .ref q5, .int 1, .ref q6, .ref q7, .ref q8, .ref q9, .ref q10, .int (wf9 15), .int (wf9 16), .int (wf9 17), .int (wf9 18)])), (h0, .inr (4, [.ref hc, .ref ha, .ref hz, .int used, .int (nI k9), .int top, .int end_, .int full])), (hc, .inl (cA 1, 886000, .inl fc9)), (q1, .inl (cA 1, 16384, .inl ft9)), (q2, .inl (cA 1, 12288, .inl (fun _ => 0))), (q3, .inl (cA 1, 12288, .inl (fun _ => 0))), (q4, .inl (cA 1, 12288, .inl (fun _ => 0))), (q5, .inl (cA 1, 12288, .inl (fun _ => 0))), (q6, .inl (cA 1, 19, .inl wf9)), (q7, .inl (cA 1, 256, .inl (fun _ => 0))), (q8, .inl (cA 1, 70, .inl (fun _ => 0))), (q9, .inl (cA 1, 70, .inl (fun _ => 0))), (q10, .inl (cA 1, 32, .inl lf9))] rfl ?_
    refine zz_iconst X 0 dX6_init_188 rfl ?_
    refine zz_istore_n X [(2, .int 0), (3, .int (nI i9)), (0, .ref n0), (1, .ref h0)] dX6_init_189 rfl (by decide) rfl ?_
    refine zz_iconst X 0 dX6_init_190 rfl ?_
    refine zz_istore_n X [(3, .int 0), (2, .int 0), (0, .ref n0), (1, .ref h0)] dX6_init_191 rfl (by decide) rfl ?_
    refine zz_ind (α := Nat × Nat × (Nat → Int32) × Nat × (Nat → Int32) × Nat × (Nat → Int32) × (Nat → Int32) × (Nat → Int32) × (Nat → Int32) × (Nat → Int32) × (Nat → Int32) × (Nat → Int32) × (Nat → Int32)) (fun zv => 70 - zv.1) (fun zv => zv.1 ≤ 70 ∧ zv.2.1 ≤ len.getD ib 0 + 1 + 2 * zv.1 ∧ zNT zv.2.2.1 zv.2.2.2.2.1 zv.2.2.2.1 ∧ k ≤ zv.2.2.2.1 ∧ zNI zv.2.2.2.2.2.2.2.2.1 zv.2.2.2.2.2.2.2.2.2.1 zv.2.2.2.2.2.1 ∧ ∀ j : Nat, (60000 ≤ j ∨ j < 16) → zv.2.2.2.2.1 j = fc j) (fun zv => [(n0, .inr (6, [.ref h0, .ref q1, .ref q2, .ref q3, .ref q4, .ref q5, .int (nI zv.2.2.2.2.2.1), .ref q6, .ref q7, .ref q8, .ref q9, .ref q10, .int (wf9 15), .int (wf9 16), .int (wf9 17), .int (wf9 18)])), (h0, .inr (4, [.ref hc, .ref ha, .ref hz, .int used, .int (nI zv.2.2.2.1), .int top, .int end_, .int full])), (hc, .inl (cA 1, 886000, .inl zv.2.2.2.2.1)), (q1, .inl (cA 1, 16384, .inl zv.2.2.1)), (q2, .inl (cA 1, 12288, .inl zv.2.2.2.2.2.2.1)), (q3, .inl (cA 1, 12288, .inl zv.2.2.2.2.2.2.2.1)), (q4, .inl (cA 1, 12288, .inl zv.2.2.2.2.2.2.2.2.1)), (q5, .inl (cA 1, 12288, .inl zv.2.2.2.2.2.2.2.2.2.1)), (q6, .inl (cA 1, 19, .inl wf9)), (q7, .inl (cA 1, 256, .inl zv.2.2.2.2.2.2.2.2.2.2.2.1)), (q8, .inl (cA 1, 70, .inl zv.2.2.2.2.2.2.2.2.2.2.2.2.1)), (q9, .inl (cA 1, 70, .inl zv.2.2.2.2.2.2.2.2.2.2.2.2.2)), (q10, .inl (cA 1, 32, .inl zv.2.2.2.2.2.2.2.2.2.2.1))]) (fun zv => [(3, .int (nI zv.1)), (2, .int (nI zv.2.1)), (0, .ref n0), (1, .ref h0)]) (fun zv => []) (0, 0, ft9, k9, fc9, 1, fun _ => 0, fun _ => 0, fun _ => 0, fun _ => 0, lf9, fun _ => 0, fun _ => 0, fun _ => 0) (⟨Nat.zero_le _, Nat.zero_le _, hI_104.2.2.1, hI_104.2.2.2.1, zNI_0, hI_104.2.2.2.2⟩) rfl rfl rfl ?_
    intro zv hI_192 ih_192
    obtain ⟨i8, t8, ft9, k9, fc9, N9, pa9, nm9, ch9, sb9, lf9, bu9, ki9, ar9⟩ := zv
    have hI_192 : i8 ≤ 70 ∧ t8 ≤ len.getD ib 0 + 1 + 2 * i8 ∧ zNT ft9 fc9 k9 ∧ k ≤ k9 ∧ zNI ch9 sb9 N9 ∧ ∀ j : Nat, (60000 ≤ j ∨ j < 16) → fc9 j = fc j := hI_192
    refine zz_at (ws' := [(n0, .inr (6, [.ref h0, .ref q1, .ref q2, .ref q3, .ref q4, .ref q5, .int (nI N9), .ref q6, .ref q7, .ref q8, .ref q9, .ref q10, .int (wf9 15), .int (wf9 16), .int (wf9 17), .int (wf9 18)])), (h0, .inr (4, [.ref hc, .ref ha, .ref hz, .int used, .int (nI k9), .int top, .int end_, .int full])), (hc, .inl (cA 1, 886000, .inl fc9)), (q1, .inl (cA 1, 16384, .inl ft9)), (q2, .inl (cA 1, 12288, .inl pa9)), (q3, .inl (cA 1, 12288, .inl nm9)), (q4, .inl (cA 1, 12288, .inl ch9)), (q5, .inl (cA 1, 12288, .inl sb9)), (q6, .inl (cA 1, 19, .inl wf9)), (q7, .inl (cA 1, 256, .inl bu9)), (q8, .inl (cA 1, 70, .inl ki9)), (q9, .inl (cA 1, 70, .inl ar9)), (q10, .inl (cA 1, 32, .inl lf9))]) (lv' := [(3, .int (nI i8)), (2, .int (nI t8)), (0, .ref n0), (1, .ref h0)]) (st' := []) rfl rfl rfl ?_
    have hL := hs.2.2.2 ib hib
    refine zz_iload_n X 0 dX6_init_192 rfl rfl ?_
    refine zz_bipush X 70 dX6_init_193 rfl ?_
    refine zz_icmp_ge X 278 dX6_init_195 (by decide) (fun c195 => ?_) (fun c195 => ?_)
    · skip
      exact zz_vret X hr ((q1, q2, q3, q4, q5, q6, q7, q8, q9, q10, N9, k9, fc9, ft9, pa9, nm9, ch9, sb9, wf9, bu9, ki9, ar9, lf9, (wf9 15), (wf9 16), (wf9 17), (wf9 18))) [0, 1, 2, 3, 4, 5, 6, 7, 8, 9, 10, 11, 12] (by decide) rfl rfl (Nat.le_of_ble_eq_true rfl) (Nat.le_of_ble_eq_true rfl) (⟨hI_192.2.2.1, hI_192.2.2.2.2.1, hI_192.2.2.2.1, hI_192.2.2.2.2.2⟩) dX6_init_278
    · skip
      have hi70 : i8 < 70 := zn_lt (b := 70) c195 (by omega)
      refine zz_ldcS X (q := (K ib)) (tx := tb8) hrb dX6_init_198 ?_
      refine zz_iload_n X 1 dX6_init_200 rfl rfl ?_
      refine zz_callSi X (rest := []) (As := [.ref (K ib), .int (nI t8)]) (kX6_stopOf hE l D cA N len byt K V ib t8 hs hib (by omega)) 2 (zgS zm_237 zm_238 zm_165 zm_236) rfl (by decide +kernel) [] [0, 1, 2, 3, 4, 5, 6, 7, 8, 9, 10, 11, 12] [(n0, .inr (6, [.ref h0, .ref q1, .ref q2, .ref q3, .ref q4, .ref q5, .int (nI N9), .ref q6, .ref q7, .ref q8, .ref q9, .ref q10, .int (wf9 15), .int (wf9 16), .int (wf9 17), .int (wf9 18)])), (h0, .inr (4, [.ref hc, .ref ha, .ref hz, .int used, .int (nI k9), .int top, .int end_, .int full])), (hc, .inl (cA 1, 886000, .inl fc9)), (q1, .inl (cA 1, 16384, .inl ft9)), (q2, .inl (cA 1, 12288, .inl pa9)), (q3, .inl (cA 1, 12288, .inl nm9)), (q4, .inl (cA 1, 12288, .inl ch9)), (q5, .inl (cA 1, 12288, .inl sb9)), (q6, .inl (cA 1, 19, .inl wf9)), (q7, .inl (cA 1, 256, .inl bu9)), (q8, .inl (cA 1, 70, .inl ki9)), (q9, .inl (cA 1, 70, .inl ar9)), (q10, .inl (cA 1, 32, .inl lf9))] rfl rfl (by decide) rfl (by decide) (by decide) ⟨Nat.le_of_ble_eq_true rfl, Nat.le_of_ble_eq_true rfl⟩ rfl rfl rfl (Nat.le_of_ble_eq_true rfl) dX6_init_201 (Nat.le_of_ble_eq_true rfl) (Nat.le_of_ble_eq_true rfl) (fun r12 u14 hw13 => ?_)
      obtain ⟨b11, rfl⟩ : ∃ z, z = u14 := ⟨_, rfl⟩
      obtain ⟨rfl, hq15, hq16⟩ := hw13
      refine zz_show (ws' := [(n0, .inr (6, [.ref h0, .ref q1, .ref q2, .ref q3, .ref q4, .ref q5, .int (nI N9), .ref q6, .ref q7, .ref q8, .ref q9, .ref q10, .int (wf9 15), .int (wf9 16), .int (wf9 17), .int (wf9 18)])), (h0, .inr (4, [.ref hc, .ref ha, .ref hz, .int used, .int (nI k9), .int top, .int end_, .int full])), (hc, .inl (cA 1, 886000, .inl fc9)), (q1, .inl (cA 1, 16384, .inl ft9)), (q2, .inl (cA 1, 12288, .inl pa9)), (q3, .inl (cA 1, 12288, .inl nm9)), (q4, .inl (cA 1, 12288, .inl ch9)), (q5, .inl (cA 1, 12288, .inl sb9)), (q6, .inl (cA 1, 19, .inl wf9)), (q7, .inl (cA 1, 256, .inl bu9)), (q8, .inl (cA 1, 70, .inl ki9)), (q9, .inl (cA 1, 70, .inl ar9)), (q10, .inl (cA 1, 32, .inl lf9))]) rfl ?_
      have hT9 := And.intro hq15 hq16
      refine zz_istore X [(4, .int (nI b11)), (3, .int (nI i8)), (2, .int (nI t8)), (0, .ref n0), (1, .ref h0)] dX6_init_204 (by decide) rfl ?_
      refine zz_aload_n X 3 dX6_init_206 rfl rfl ?_
      refine zz_ldcS X (q := (K ib)) (tx := tb8) hrb dX6_init_207 ?_
      refine zz_iload_n X 2 dX6_init_209 rfl rfl ?_
      refine zz_iload X 0 dX6_init_210 rfl ?_
      refine zz_callVi X (rest := []) (As := [.ref (K ib), .int (nI t8), .int (nI b11)]) (kX6_nodeOf hE l D cA N len byt K V ib h0 hc ha hz used top end_ full k9 n0 q1 q2 q3 q4 q5 q6 q7 q8 q9 q10 (wf9 15) (wf9 16) (wf9 17) (wf9 18) N9 fc9 ft9 pa9 nm9 ch9 sb9 lf9 t8 b11 hs hib hI_192.2.2.1 hI_192.2.2.2.2.1 hT9.1 hT9.2 (by omega)) 3 (zgV zm_249 zm_250 zm_251 zm_165 zm_248) rfl (by decide +kernel) [0, 1, 2, 3, 4, 5, 6, 7, 12] [8, 9, 10, 11] [(q6, .inl (cA 1, 19, .inl wf9)), (q7, .inl (cA 1, 256, .inl bu9)), (q8, .inl (cA 1, 70, .inl ki9)), (q9, .inl (cA 1, 70, .inl ar9))] rfl rfl (by decide) rfl (by decide) (by decide) ⟨Nat.le_of_ble_eq_true rfl, Nat.le_of_ble_eq_true rfl⟩ 0 rfl rfl rfl rfl rfl (Nat.le_of_ble_eq_true rfl) dX6_init_212 (Nat.le_of_ble_eq_true rfl) (Nat.le_of_ble_eq_true rfl) (fun r26 u28 hw27 => ?_)
      obtain ⟨ft217, k218, f219, N220, fpa221, fnm222, fch223, fsb224, lf225⟩ := u28
      refine zz_show (ws' := [(q6, .inl (cA 1, 19, .inl wf9)), (q7, .inl (cA 1, 256, .inl bu9)), (q8, .inl (cA 1, 70, .inl ki9)), (q9, .inl (cA 1, 70, .inl ar9)), (n0, .inr (6, [.ref h0, .ref q1, .ref q2, .ref q3, .ref q4, .ref q5, .int (nI N220), .ref q6, .ref q7, .ref q8, .ref q9, .ref q10, .int (wf9 15), .int (wf9 16), .int (wf9 17), .int (wf9 18)])), (h0, .inr (4, [.ref hc, .ref ha, .ref hz, .int used, .int (nI k218), .int top, .int end_, .int full])), (hc, .inl (cA 1, 886000, .inl f219)), (q1, .inl (cA 1, 16384, .inl ft217)), (q2, .inl (cA 1, 12288, .inl fpa221)), (q3, .inl (cA 1, 12288, .inl fnm222)), (q4, .inl (cA 1, 12288, .inl fch223)), (q5, .inl (cA 1, 12288, .inl fsb224)), (q10, .inl (cA 1, 32, .inl lf225))]) rfl ?_
      have hO9 := hw27
      obtain ⟨b9, eb9, hbN⟩ := hO9.2.2.2.1
      subst eb9
      have hN12 := hO9.2.2.1.2.1
      refine zz_istore X [(5, .int (nI b9)), (4, .int (nI b11)), (3, .int (nI i8)), (2, .int (nI t8)), (0, .ref n0), (1, .ref h0)] dX6_init_215 (by decide) rfl ?_
      refine zz_iload X 0 dX6_init_217 rfl ?_
      refine zz_aload_n X 4 dX6_init_219 rfl rfl ?_
      refine zz_get X 4 8 rfl rfl (by decide) (fun w h => List.mem_cons_of_mem _ (zf_X6 w h)) rfl (List.mem_cons_of_mem _ zm_229) rfl dX6_init_220 ?_
      refine zz_alen X 1 1 rfl rfl (256) rfl dX6_init_223 ?_
      refine zz_icmp_ge X 237 dX6_init_224 (by decide) (fun c224 => ?_) (fun c224 => ?_)
      · skip
        refine zz_iload X 1 dX6_init_237 rfl ?_
        refine zz_iconst X 1 dX6_init_239 rfl ?_
        refine zz_iadd X ((nI (b11 + 1))) dX6_init_240 (nI_1 _) ?_
        refine zz_istore_n X [(2, .int (nI (b11 + 1))), (5, .int (nI b9)), (4, .int (nI b11)), (3, .int (nI i8)), (0, .ref n0), (1, .ref h0)] dX6_init_241 rfl (by decide) rfl ?_
        refine zz_ldcS X (q := (K ib)) (tx := tb8) hrb dX6_init_242 ?_
        refine zz_iload_n X 0 dX6_init_244 rfl rfl ?_
        refine zz_callSi X (rest := []) (As := [.ref (K ib), .int (nI (b11 + 1))]) (kX6_stopOf hE l D cA N len byt K V ib (b11 + 1) hs hib (by omega)) 2 (zgS zm_237 zm_238 zm_165 zm_236) rfl (by decide +kernel) [] [0, 1, 2, 3, 4, 5, 6, 7, 8, 9, 10, 11, 12] [(q6, .inl (cA 1, 19, .inl wf9)), (q7, .inl (cA 1, 256, .inl bu9)), (q8, .inl (cA 1, 70, .inl ki9)), (q9, .inl (cA 1, 70, .inl ar9)), (n0, .inr (6, [.ref h0, .ref q1, .ref q2, .ref q3, .ref q4, .ref q5, .int (nI N220), .ref q6, .ref q7, .ref q8, .ref q9, .ref q10, .int (wf9 15), .int (wf9 16), .int (wf9 17), .int (wf9 18)])), (h0, .inr (4, [.ref hc, .ref ha, .ref hz, .int used, .int (nI k218), .int top, .int end_, .int full])), (hc, .inl (cA 1, 886000, .inl f219)), (q1, .inl (cA 1, 16384, .inl ft217)), (q2, .inl (cA 1, 12288, .inl fpa221)), (q3, .inl (cA 1, 12288, .inl fnm222)), (q4, .inl (cA 1, 12288, .inl fch223)), (q5, .inl (cA 1, 12288, .inl fsb224)), (q10, .inl (cA 1, 32, .inl lf225))] rfl rfl (by decide) rfl (by decide) (by decide) ⟨Nat.le_of_ble_eq_true rfl, Nat.le_of_ble_eq_true rfl⟩ rfl rfl rfl (Nat.le_of_ble_eq_true rfl) dX6_init_245 (Nat.le_of_ble_eq_true rfl) (Nat.le_of_ble_eq_true rfl) (fun r30 u32 hw31 => ?_)
        obtain ⟨b29, rfl⟩ : ∃ z, z = u32 := ⟨_, rfl⟩
        obtain ⟨rfl, hq33, hq34⟩ := hw31
        refine zz_show (ws' := [(q6, .inl (cA 1, 19, .inl wf9)), (q7, .inl (cA 1, 256, .inl bu9)), (q8, .inl (cA 1, 70, .inl ki9)), (q9, .inl (cA 1, 70, .inl ar9)), (n0, .inr (6, [.ref h0, .ref q1, .ref q2, .ref q3, .ref q4, .ref q5, .int (nI N220), .ref q6, .ref q7, .ref q8, .ref q9, .ref q10, .int (wf9 15), .int (wf9 16), .int (wf9 17), .int (wf9 18)])), (h0, .inr (4, [.ref hc, .ref ha, .ref hz, .int used, .int (nI k218), .int top, .int end_, .int full])), (hc, .inl (cA 1, 886000, .inl f219)), (q1, .inl (cA 1, 16384, .inl ft217)), (q2, .inl (cA 1, 12288, .inl fpa221)), (q3, .inl (cA 1, 12288, .inl fnm222)), (q4, .inl (cA 1, 12288, .inl fch223)), (q5, .inl (cA 1, 12288, .inl fsb224)), (q10, .inl (cA 1, 32, .inl lf225))]) rfl ?_
        have hT8 := And.intro hq33 hq34
        refine zz_istore X [(4, .int (nI b29)), (2, .int (nI (b11 + 1))), (5, .int (nI b9)), (3, .int (nI i8)), (0, .ref n0), (1, .ref h0)] dX6_init_248 (by decide) rfl ?_
        refine zz_aload_n X 4 dX6_init_250 rfl rfl ?_
        refine zz_get X 4 9 rfl rfl (by decide) (fun w h => List.mem_cons_of_mem _ (zf_X6 w h)) rfl (List.mem_cons_of_mem _ zm_230) rfl dX6_init_251 ?_
        refine zz_iload_n X 3 dX6_init_254 rfl rfl ?_
        refine zz_iload_n X 1 dX6_init_255 rfl rfl ?_
        refine zz_iast X 2 1 rfl rfl (vp_in_nI (by omega) (by decide)) i8 (nI_clamp (by omega)) dX6_init_256 [(q6, .inl (cA 1, 19, .inl wf9)), (q7, .inl (cA 1, 256, .inl bu9)), (q8, .inl (cA 1, 70, .inl (upd ki9 i8 (nI (b11 + 1))))), (q9, .inl (cA 1, 70, .inl ar9)), (n0, .inr (6, [.ref h0, .ref q1, .ref q2, .ref q3, .ref q4, .ref q5, .int (nI N220), .ref q6, .ref q7, .ref q8, .ref q9, .ref q10, .int (wf9 15), .int (wf9 16), .int (wf9 17), .int (wf9 18)])), (h0, .inr (4, [.ref hc, .ref ha, .ref hz, .int used, .int (nI k218), .int top, .int end_, .int full])), (hc, .inl (cA 1, 886000, .inl f219)), (q1, .inl (cA 1, 16384, .inl ft217)), (q2, .inl (cA 1, 12288, .inl fpa221)), (q3, .inl (cA 1, 12288, .inl fnm222)), (q4, .inl (cA 1, 12288, .inl fch223)), (q5, .inl (cA 1, 12288, .inl fsb224)), (q10, .inl (cA 1, 32, .inl lf225))] rfl ?_
        refine zz_aload_n X 4 dX6_init_257 rfl rfl ?_
        refine zz_get X 4 10 rfl rfl (by decide) (fun w h => List.mem_cons_of_mem _ (zf_X6 w h)) rfl (List.mem_cons_of_mem _ zm_231) rfl dX6_init_258 ?_
        refine zz_iload_n X 3 dX6_init_261 rfl rfl ?_
        refine zz_iload X 0 dX6_init_262 rfl ?_
        refine zz_iload_n X 1 dX6_init_264 rfl rfl ?_
        refine zz_isub X ((nI (b29 - (b11 + 1)))) dX6_init_265 (pk_sub hT8.1) ?_
        refine zz_iast X 3 1 rfl rfl (vp_in_nI (by omega) (by decide)) i8 (nI_clamp (by omega)) dX6_init_266 [(q6, .inl (cA 1, 19, .inl wf9)), (q7, .inl (cA 1, 256, .inl bu9)), (q8, .inl (cA 1, 70, .inl (upd ki9 i8 (nI (b11 + 1))))), (q9, .inl (cA 1, 70, .inl (upd ar9 i8 (nI (b29 - (b11 + 1)))))), (n0, .inr (6, [.ref h0, .ref q1, .ref q2, .ref q3, .ref q4, .ref q5, .int (nI N220), .ref q6, .ref q7, .ref q8, .ref q9, .ref q10, .int (wf9 15), .int (wf9 16), .int (wf9 17), .int (wf9 18)])), (h0, .inr (4, [.ref hc, .ref ha, .ref hz, .int used, .int (nI k218), .int top, .int end_, .int full])), (hc, .inl (cA 1, 886000, .inl f219)), (q1, .inl (cA 1, 16384, .inl ft217)), (q2, .inl (cA 1, 12288, .inl fpa221)), (q3, .inl (cA 1, 12288, .inl fnm222)), (q4, .inl (cA 1, 12288, .inl fch223)), (q5, .inl (cA 1, 12288, .inl fsb224)), (q10, .inl (cA 1, 32, .inl lf225))] rfl ?_
        refine zz_iload X 0 dX6_init_267 rfl ?_
        refine zz_iconst X 1 dX6_init_269 rfl ?_
        refine zz_iadd X ((nI (b29 + 1))) dX6_init_270 (nI_1 _) ?_
        refine zz_istore_n X [(2, .int (nI (b29 + 1))), (4, .int (nI b29)), (5, .int (nI b9)), (3, .int (nI i8)), (0, .ref n0), (1, .ref h0)] dX6_init_271 rfl (by decide) rfl ?_
        refine zz_iinc X 3 ((nI (i8 + 1))) [(3, .int (nI (i8 + 1))), (2, .int (nI (b29 + 1))), (4, .int (nI b29)), (5, .int (nI b9)), (0, .ref n0), (1, .ref h0)] dX6_init_272 rfl (nI_1 _) (by decide) rfl ?_
        refine zz_goto X 192 dX6_init_275 (by decide) ?_
        refine zz_ws (ws' := [(n0, .inr (6, [.ref h0, .ref q1, .ref q2, .ref q3, .ref q4, .ref q5, .int (nI N220), .ref q6, .ref q7, .ref q8, .ref q9, .ref q10, .int (wf9 15), .int (wf9 16), .int (wf9 17), .int (wf9 18)])), (h0, .inr (4, [.ref hc, .ref ha, .ref hz, .int used, .int (nI k218), .int top, .int end_, .int full])), (hc, .inl (cA 1, 886000, .inl f219)), (q1, .inl (cA 1, 16384, .inl ft217)), (q2, .inl (cA 1, 12288, .inl fpa221)), (q3, .inl (cA 1, 12288, .inl fnm222)), (q4, .inl (cA 1, 12288, .inl fch223)), (q5, .inl (cA 1, 12288, .inl fsb224)), (q6, .inl (cA 1, 19, .inl wf9)), (q7, .inl (cA 1, 256, .inl bu9)), (q8, .inl (cA 1, 70, .inl (upd ki9 i8 (nI (b11 + 1))))), (q9, .inl (cA 1, 70, .inl (upd ar9 i8 (nI (b29 - (b11 + 1)))))), (q10, .inl (cA 1, 32, .inl lf225))]) [4, 5, 6, 7, 8, 9, 10, 11, 0, 1, 2, 3, 12] (by decide) rfl rfl ?_
        refine zz_lv (lv' := [(3, .int (nI (i8 + 1))), (2, .int (nI (b29 + 1))), (0, .ref n0), (1, .ref h0)]) [0, 1, 4, 5] rfl ?_
        exact ih_192 (i8 + 1, (b29 + 1), ft217, k218, f219, N220, fpa221, fnm222, fch223, fsb224, lf225, bu9, upd ki9 i8 (nI (b11 + 1)), upd ar9 i8 (nI (b29 - (b11 + 1)))) (show (i8 + 1) ≤ 70 ∧ (b29 + 1) ≤ len.getD ib 0 + 1 + 2 * (i8 + 1) ∧ zNT ft217 f219 k218 ∧ k ≤ k218 ∧ zNI fch223 fsb224 N220 ∧ ∀ j : Nat, (60000 ≤ j ∨ j < 16) → f219 j = fc j from ⟨by omega, by omega, hO9.1, Nat.le_trans hI_192.2.2.2.1 hO9.2.1, hO9.2.2.1, fun j hj => (hO9.2.2.2.2 j hj).trans (hI_192.2.2.2.2.2 j hj)⟩) (show (70 - (i8 + 1)) < (70 - i8) from (by omega))
      · skip
        have hb256 : b9 < 256 := zn_lt (b := 256) c224 (by omega)
        refine zz_aload_n X 4 dX6_init_227 rfl rfl ?_
        refine zz_get X 4 8 rfl rfl (by decide) (fun w h => List.mem_cons_of_mem _ (zf_X6 w h)) rfl (List.mem_cons_of_mem _ zm_229) rfl dX6_init_228 ?_
        refine zz_iload X 0 dX6_init_231 rfl ?_
        refine zz_iload_n X 2 dX6_init_233 rfl rfl ?_
        refine zz_iconst X 1 dX6_init_234 rfl ?_
        refine zz_iadd X ((nI (i8 + 1))) dX6_init_235 (nI_1 _) ?_
        refine zz_iast X 1 1 rfl rfl (vp_in_nI (by omega) (by decide)) b9 (nI_clamp (by omega)) dX6_init_236 [(q6, .inl (cA 1, 19, .inl wf9)), (q7, .inl (cA 1, 256, .inl (upd bu9 b9 (nI (i8 + 1))))), (q8, .inl (cA 1, 70, .inl ki9)), (q9, .inl (cA 1, 70, .inl ar9)), (n0, .inr (6, [.ref h0, .ref q1, .ref q2, .ref q3, .ref q4, .ref q5, .int (nI N220), .ref q6, .ref q7, .ref q8, .ref q9, .ref q10, .int (wf9 15), .int (wf9 16), .int (wf9 17), .int (wf9 18)])), (h0, .inr (4, [.ref hc, .ref ha, .ref hz, .int used, .int (nI k218), .int top, .int end_, .int full])), (hc, .inl (cA 1, 886000, .inl f219)), (q1, .inl (cA 1, 16384, .inl ft217)), (q2, .inl (cA 1, 12288, .inl fpa221)), (q3, .inl (cA 1, 12288, .inl fnm222)), (q4, .inl (cA 1, 12288, .inl fch223)), (q5, .inl (cA 1, 12288, .inl fsb224)), (q10, .inl (cA 1, 32, .inl lf225))] rfl ?_
        refine zz_iload X 1 dX6_init_237 rfl ?_
        refine zz_iconst X 1 dX6_init_239 rfl ?_
        refine zz_iadd X ((nI (b11 + 1))) dX6_init_240 (nI_1 _) ?_
        refine zz_istore_n X [(2, .int (nI (b11 + 1))), (5, .int (nI b9)), (4, .int (nI b11)), (3, .int (nI i8)), (0, .ref n0), (1, .ref h0)] dX6_init_241 rfl (by decide) rfl ?_
        refine zz_ldcS X (q := (K ib)) (tx := tb8) hrb dX6_init_242 ?_
        refine zz_iload_n X 0 dX6_init_244 rfl rfl ?_
        refine zz_callSi X (rest := []) (As := [.ref (K ib), .int (nI (b11 + 1))]) (kX6_stopOf hE l D cA N len byt K V ib (b11 + 1) hs hib (by omega)) 2 (zgS zm_237 zm_238 zm_165 zm_236) rfl (by decide +kernel) [] [0, 1, 2, 3, 4, 5, 6, 7, 8, 9, 10, 11, 12] [(q6, .inl (cA 1, 19, .inl wf9)), (q7, .inl (cA 1, 256, .inl (upd bu9 b9 (nI (i8 + 1))))), (q8, .inl (cA 1, 70, .inl ki9)), (q9, .inl (cA 1, 70, .inl ar9)), (n0, .inr (6, [.ref h0, .ref q1, .ref q2, .ref q3, .ref q4, .ref q5, .int (nI N220), .ref q6, .ref q7, .ref q8, .ref q9, .ref q10, .int (wf9 15), .int (wf9 16), .int (wf9 17), .int (wf9 18)])), (h0, .inr (4, [.ref hc, .ref ha, .ref hz, .int used, .int (nI k218), .int top, .int end_, .int full])), (hc, .inl (cA 1, 886000, .inl f219)), (q1, .inl (cA 1, 16384, .inl ft217)), (q2, .inl (cA 1, 12288, .inl fpa221)), (q3, .inl (cA 1, 12288, .inl fnm222)), (q4, .inl (cA 1, 12288, .inl fch223)), (q5, .inl (cA 1, 12288, .inl fsb224)), (q10, .inl (cA 1, 32, .inl lf225))] rfl rfl (by decide) rfl (by decide) (by decide) ⟨Nat.le_of_ble_eq_true rfl, Nat.le_of_ble_eq_true rfl⟩ rfl rfl rfl (Nat.le_of_ble_eq_true rfl) dX6_init_245 (Nat.le_of_ble_eq_true rfl) (Nat.le_of_ble_eq_true rfl) (fun r36 u38 hw37 => ?_)
        obtain ⟨b35, rfl⟩ : ∃ z, z = u38 := ⟨_, rfl⟩
        obtain ⟨rfl, hq39, hq40⟩ := hw37
        refine zz_show (ws' := [(q6, .inl (cA 1, 19, .inl wf9)), (q7, .inl (cA 1, 256, .inl (upd bu9 b9 (nI (i8 + 1))))), (q8, .inl (cA 1, 70, .inl ki9)), (q9, .inl (cA 1, 70, .inl ar9)), (n0, .inr (6, [.ref h0, .ref q1, .ref q2, .ref q3, .ref q4, .ref q5, .int (nI N220), .ref q6, .ref q7, .ref q8, .ref q9, .ref q10, .int (wf9 15), .int (wf9 16), .int (wf9 17), .int (wf9 18)])), (h0, .inr (4, [.ref hc, .ref ha, .ref hz, .int used, .int (nI k218), .int top, .int end_, .int full])), (hc, .inl (cA 1, 886000, .inl f219)), (q1, .inl (cA 1, 16384, .inl ft217)), (q2, .inl (cA 1, 12288, .inl fpa221)), (q3, .inl (cA 1, 12288, .inl fnm222)), (q4, .inl (cA 1, 12288, .inl fch223)), (q5, .inl (cA 1, 12288, .inl fsb224)), (q10, .inl (cA 1, 32, .inl lf225))]) rfl ?_
        have hT8 := And.intro hq39 hq40
        refine zz_istore X [(4, .int (nI b35)), (2, .int (nI (b11 + 1))), (5, .int (nI b9)), (3, .int (nI i8)), (0, .ref n0), (1, .ref h0)] dX6_init_248 (by decide) rfl ?_
        refine zz_aload_n X 4 dX6_init_250 rfl rfl ?_
        refine zz_get X 4 9 rfl rfl (by decide) (fun w h => List.mem_cons_of_mem _ (zf_X6 w h)) rfl (List.mem_cons_of_mem _ zm_230) rfl dX6_init_251 ?_
        refine zz_iload_n X 3 dX6_init_254 rfl rfl ?_
        refine zz_iload_n X 1 dX6_init_255 rfl rfl ?_
        refine zz_iast X 2 1 rfl rfl (vp_in_nI (by omega) (by decide)) i8 (nI_clamp (by omega)) dX6_init_256 [(q6, .inl (cA 1, 19, .inl wf9)), (q7, .inl (cA 1, 256, .inl (upd bu9 b9 (nI (i8 + 1))))), (q8, .inl (cA 1, 70, .inl (upd ki9 i8 (nI (b11 + 1))))), (q9, .inl (cA 1, 70, .inl ar9)), (n0, .inr (6, [.ref h0, .ref q1, .ref q2, .ref q3, .ref q4, .ref q5, .int (nI N220), .ref q6, .ref q7, .ref q8, .ref q9, .ref q10, .int (wf9 15), .int (wf9 16), .int (wf9 17), .int (wf9 18)])), (h0, .inr (4, [.ref hc, .ref ha, .ref hz, .int used, .int (nI k218), .int top, .int end_, .int full])), (hc, .inl (cA 1, 886000, .inl f219)), (q1, .inl (cA 1, 16384, .inl ft217)), (q2, .inl (cA 1, 12288, .inl fpa221)), (q3, .inl (cA 1, 12288, .inl fnm222)), (q4, .inl (cA 1, 12288, .inl fch223)), (q5, .inl (cA 1, 12288, .inl fsb224)), (q10, .inl (cA 1, 32, .inl lf225))] rfl ?_
        refine zz_aload_n X 4 dX6_init_257 rfl rfl ?_
        refine zz_get X 4 10 rfl rfl (by decide) (fun w h => List.mem_cons_of_mem _ (zf_X6 w h)) rfl (List.mem_cons_of_mem _ zm_231) rfl dX6_init_258 ?_
        refine zz_iload_n X 3 dX6_init_261 rfl rfl ?_
        refine zz_iload X 0 dX6_init_262 rfl ?_
        refine zz_iload_n X 1 dX6_init_264 rfl rfl ?_
        refine zz_isub X ((nI (b35 - (b11 + 1)))) dX6_init_265 (pk_sub hT8.1) ?_
        refine zz_iast X 3 1 rfl rfl (vp_in_nI (by omega) (by decide)) i8 (nI_clamp (by omega)) dX6_init_266 [(q6, .inl (cA 1, 19, .inl wf9)), (q7, .inl (cA 1, 256, .inl (upd bu9 b9 (nI (i8 + 1))))), (q8, .inl (cA 1, 70, .inl (upd ki9 i8 (nI (b11 + 1))))), (q9, .inl (cA 1, 70, .inl (upd ar9 i8 (nI (b35 - (b11 + 1)))))), (n0, .inr (6, [.ref h0, .ref q1, .ref q2, .ref q3, .ref q4, .ref q5, .int (nI N220), .ref q6, .ref q7, .ref q8, .ref q9, .ref q10, .int (wf9 15), .int (wf9 16), .int (wf9 17), .int (wf9 18)])), (h0, .inr (4, [.ref hc, .ref ha, .ref hz, .int used, .int (nI k218), .int top, .int end_, .int full])), (hc, .inl (cA 1, 886000, .inl f219)), (q1, .inl (cA 1, 16384, .inl ft217)), (q2, .inl (cA 1, 12288, .inl fpa221)), (q3, .inl (cA 1, 12288, .inl fnm222)), (q4, .inl (cA 1, 12288, .inl fch223)), (q5, .inl (cA 1, 12288, .inl fsb224)), (q10, .inl (cA 1, 32, .inl lf225))] rfl ?_
        refine zz_iload X 0 dX6_init_267 rfl ?_
        refine zz_iconst X 1 dX6_init_269 rfl ?_
        refine zz_iadd X ((nI (b35 + 1))) dX6_init_270 (nI_1 _) ?_
        refine zz_istore_n X [(2, .int (nI (b35 + 1))), (4, .int (nI b35)), (5, .int (nI b9)), (3, .int (nI i8)), (0, .ref n0), (1, .ref h0)] dX6_init_271 rfl (by decide) rfl ?_
        refine zz_iinc X 3 ((nI (i8 + 1))) [(3, .int (nI (i8 + 1))), (2, .int (nI (b35 + 1))), (4, .int (nI b35)), (5, .int (nI b9)), (0, .ref n0), (1, .ref h0)] dX6_init_272 rfl (nI_1 _) (by decide) rfl ?_
        refine zz_goto X 192 dX6_init_275 (by decide) ?_
        refine zz_ws (ws' := [(n0, .inr (6, [.ref h0, .ref q1, .ref q2, .ref q3, .ref q4, .ref q5, .int (nI N220), .ref q6, .ref q7, .ref q8, .ref q9, .ref q10, .int (wf9 15), .int (wf9 16), .int (wf9 17), .int (wf9 18)])), (h0, .inr (4, [.ref hc, .ref ha, .ref hz, .int used, .int (nI k218), .int top, .int end_, .int full])), (hc, .inl (cA 1, 886000, .inl f219)), (q1, .inl (cA 1, 16384, .inl ft217)), (q2, .inl (cA 1, 12288, .inl fpa221)), (q3, .inl (cA 1, 12288, .inl fnm222)), (q4, .inl (cA 1, 12288, .inl fch223)), (q5, .inl (cA 1, 12288, .inl fsb224)), (q6, .inl (cA 1, 19, .inl wf9)), (q7, .inl (cA 1, 256, .inl (upd bu9 b9 (nI (i8 + 1))))), (q8, .inl (cA 1, 70, .inl (upd ki9 i8 (nI (b11 + 1))))), (q9, .inl (cA 1, 70, .inl (upd ar9 i8 (nI (b35 - (b11 + 1)))))), (q10, .inl (cA 1, 32, .inl lf225))]) [4, 5, 6, 7, 8, 9, 10, 11, 0, 1, 2, 3, 12] (by decide) rfl rfl ?_
        refine zz_lv (lv' := [(3, .int (nI (i8 + 1))), (2, .int (nI (b35 + 1))), (0, .ref n0), (1, .ref h0)]) [0, 1, 4, 5] rfl ?_
        exact ih_192 (i8 + 1, (b35 + 1), ft217, k218, f219, N220, fpa221, fnm222, fch223, fsb224, lf225, upd bu9 b9 (nI (i8 + 1)), upd ki9 i8 (nI (b11 + 1)), upd ar9 i8 (nI (b35 - (b11 + 1)))) (show (i8 + 1) ≤ 70 ∧ (b35 + 1) ≤ len.getD ib 0 + 1 + 2 * (i8 + 1) ∧ zNT ft217 f219 k218 ∧ k ≤ k218 ∧ zNI fch223 fsb224 N220 ∧ ∀ j : Nat, (60000 ≤ j ∨ j < 16) → f219 j = fc j from ⟨by omega, by omega, hO9.1, Nat.le_trans hI_192.2.2.2.1 hO9.2.1, hO9.2.2.1, fun j hj => (hO9.2.2.2.2 j hj).trans (hI_192.2.2.2.2.2 j hj)⟩) (show (70 - (i8 + 1)) < (70 - i8) from (by omega))
  · skip
    have hi19 : i9 < 19 := zn_lt (b := 19) c107 (by omega)
    refine zz_ldcS X (q := (K iw)) (tx := tw) hrw dX6_init_110 ?_
    refine zz_iload_n X 1 dX6_init_112 rfl rfl ?_
    refine zz_callSi X (rest := []) (As := [.ref (K iw), .int (nI t9)]) (kX6_stopOf hE l D cA N len byt K V iw t9 hs hiw (by omega)) 2 (zgS zm_237 zm_238 zm_165 zm_236) rfl (by decide +kernel) [] [0, 1, 2, 3, 4, 5, 6, 7, 8, 9, 10, 11, 12] [(n0, .inr (6, [.ref h0, .ref q1, .ref q2, .ref q3, .ref q4, .ref q5, .int 1, .ref q6, .ref q7, .ref q8, .ref q9, .ref q10, .int 0, .int 0, .int 0, .int 0])), (h0, .inr (4, [.ref hc, .ref ha, .ref hz, .int used, .int (nI k9), .int top, .int end_, .int full])), (hc, .inl (cA 1, 886000, .inl fc9)), (q1, .inl (cA 1, 16384, .inl ft9)), (q2, .inl (cA 1, 12288, .inl (fun _ => 0))), (q3, .inl (cA 1, 12288, .inl (fun _ => 0))), (q4, .inl (cA 1, 12288, .inl (fun _ => 0))), (q5, .inl (cA 1, 12288, .inl (fun _ => 0))), (q6, .inl (cA 1, 19, .inl wf9)), (q7, .inl (cA 1, 256, .inl (fun _ => 0))), (q8, .inl (cA 1, 70, .inl (fun _ => 0))), (q9, .inl (cA 1, 70, .inl (fun _ => 0))), (q10, .inl (cA 1, 32, .inl lf9))] rfl rfl (by decide) rfl (by decide) (by decide) ⟨Nat.le_of_ble_eq_true rfl, Nat.le_of_ble_eq_true rfl⟩ rfl rfl rfl (Nat.le_of_ble_eq_true rfl) dX6_init_113 (Nat.le_of_ble_eq_true rfl) (Nat.le_of_ble_eq_true rfl) (fun r42 u44 hw43 => ?_)
    obtain ⟨b41, rfl⟩ : ∃ z, z = u44 := ⟨_, rfl⟩
    obtain ⟨rfl, hq45, hq46⟩ := hw43
    refine zz_show (ws' := [(n0, .inr (6, [.ref h0, .ref q1, .ref q2, .ref q3, .ref q4, .ref q5, .int 1, .ref q6, .ref q7, .ref q8, .ref q9, .ref q10, .int 0, .int 0, .int 0, .int 0])), (h0, .inr (4, [.ref hc, .ref ha, .ref hz, .int used, .int (nI k9), .int top, .int end_, .int full])), (hc, .inl (cA 1, 886000, .inl fc9)), (q1, .inl (cA 1, 16384, .inl ft9)), (q2, .inl (cA 1, 12288, .inl (fun _ => 0))), (q3, .inl (cA 1, 12288, .inl (fun _ => 0))), (q4, .inl (cA 1, 12288, .inl (fun _ => 0))), (q5, .inl (cA 1, 12288, .inl (fun _ => 0))), (q6, .inl (cA 1, 19, .inl wf9)), (q7, .inl (cA 1, 256, .inl (fun _ => 0))), (q8, .inl (cA 1, 70, .inl (fun _ => 0))), (q9, .inl (cA 1, 70, .inl (fun _ => 0))), (q10, .inl (cA 1, 32, .inl lf9))]) rfl ?_
    have hT9 := And.intro hq45 hq46
    refine zz_istore X [(4, .int (nI b41)), (3, .int (nI i9)), (2, .int (nI t9)), (0, .ref n0), (1, .ref h0)] dX6_init_116 (by decide) rfl ?_
    refine zz_aload_n X 3 dX6_init_118 rfl rfl ?_
    refine zz_get X 0 7 rfl rfl (by decide) (fun w h => List.mem_cons_of_mem _ (zf_X6 w h)) rfl (List.mem_cons_of_mem _ zm_228) rfl dX6_init_119 ?_
    refine zz_iload_n X 1 dX6_init_122 rfl rfl ?_
    refine zz_aload_n X 3 dX6_init_123 rfl rfl ?_
    refine zz_ldcS X (q := (K iw)) (tx := tw) hrw dX6_init_124 ?_
    refine zz_iload_n X 2 dX6_init_126 rfl rfl ?_
    refine zz_iload X 0 dX6_init_127 rfl ?_
    refine zz_callVi X (rest := [.int (nI i9), .ref q6]) (As := [.ref (K iw), .int (nI t9), .int (nI b41)]) (kX6_symOf hE l D cA N len byt K V iw h0 hc ha hz used top end_ full k9 n0 q1 q2 q3 q4 q5 1 q6 q7 q8 q9 q10 0 0 0 0 fc9 ft9 lf9 t9 b41 hs hiw hI_104.2.2.1 hT9.1 hT9.2 (by omega)) 3 (zgV zm_253 zm_254 zm_255 zm_165 zm_252) rfl (by decide +kernel) [0, 1, 2, 3, 12] [4, 5, 6, 7, 8, 9, 10, 11] [(q2, .inl (cA 1, 12288, .inl (fun _ => 0))), (q3, .inl (cA 1, 12288, .inl (fun _ => 0))), (q4, .inl (cA 1, 12288, .inl (fun _ => 0))), (q5, .inl (cA 1, 12288, .inl (fun _ => 0))), (q6, .inl (cA 1, 19, .inl wf9)), (q7, .inl (cA 1, 256, .inl (fun _ => 0))), (q8, .inl (cA 1, 70, .inl (fun _ => 0))), (q9, .inl (cA 1, 70, .inl (fun _ => 0)))] rfl rfl (by decide) rfl (by decide) (by decide) ⟨Nat.le_of_ble_eq_true rfl, Nat.le_of_ble_eq_true rfl⟩ 0 rfl rfl rfl rfl rfl (Nat.le_of_ble_eq_true rfl) dX6_init_129 (Nat.le_of_ble_eq_true rfl) (Nat.le_of_ble_eq_true rfl) (fun r51 u53 hw52 => ?_)
    obtain ⟨ft247, k248, f249, lf250⟩ := u53
    refine zz_show (ws' := [(q2, .inl (cA 1, 12288, .inl (fun _ => 0))), (q3, .inl (cA 1, 12288, .inl (fun _ => 0))), (q4, .inl (cA 1, 12288, .inl (fun _ => 0))), (q5, .inl (cA 1, 12288, .inl (fun _ => 0))), (q6, .inl (cA 1, 19, .inl wf9)), (q7, .inl (cA 1, 256, .inl (fun _ => 0))), (q8, .inl (cA 1, 70, .inl (fun _ => 0))), (q9, .inl (cA 1, 70, .inl (fun _ => 0))), (n0, .inr (6, [.ref h0, .ref q1, .ref q2, .ref q3, .ref q4, .ref q5, .int 1, .ref q6, .ref q7, .ref q8, .ref q9, .ref q10, .int 0, .int 0, .int 0, .int 0])), (h0, .inr (4, [.ref hc, .ref ha, .ref hz, .int used, .int (nI k248), .int top, .int end_, .int full])), (hc, .inl (cA 1, 886000, .inl f249)), (q1, .inl (cA 1, 16384, .inl ft247)), (q10, .inl (cA 1, 32, .inl lf250))]) rfl ?_
    have hS9 := hw52
    refine zz_iast X 4 1 rfl rfl (vp_in_nI (by omega) (by decide)) i9 (nI_clamp (by omega)) dX6_init_132 [(q2, .inl (cA 1, 12288, .inl (fun _ => 0))), (q3, .inl (cA 1, 12288, .inl (fun _ => 0))), (q4, .inl (cA 1, 12288, .inl (fun _ => 0))), (q5, .inl (cA 1, 12288, .inl (fun _ => 0))), (q6, .inl (cA 1, 19, .inl (upd wf9 i9 r51))), (q7, .inl (cA 1, 256, .inl (fun _ => 0))), (q8, .inl (cA 1, 70, .inl (fun _ => 0))), (q9, .inl (cA 1, 70, .inl (fun _ => 0))), (n0, .inr (6, [.ref h0, .ref q1, .ref q2, .ref q3, .ref q4, .ref q5, .int 1, .ref q6, .ref q7, .ref q8, .ref q9, .ref q10, .int 0, .int 0, .int 0, .int 0])), (h0, .inr (4, [.ref hc, .ref ha, .ref hz, .int used, .int (nI k248), .int top, .int end_, .int full])), (hc, .inl (cA 1, 886000, .inl f249)), (q1, .inl (cA 1, 16384, .inl ft247)), (q10, .inl (cA 1, 32, .inl lf250))] rfl ?_
    refine zz_iload X 0 dX6_init_133 rfl ?_
    refine zz_iconst X 1 dX6_init_135 rfl ?_
    refine zz_iadd X ((nI (b41 + 1))) dX6_init_136 (nI_1 _) ?_
    refine zz_istore_n X [(2, .int (nI (b41 + 1))), (4, .int (nI b41)), (3, .int (nI i9)), (0, .ref n0), (1, .ref h0)] dX6_init_137 rfl (by decide) rfl ?_
    refine zz_iinc X 2 ((nI (i9 + 1))) [(3, .int (nI (i9 + 1))), (2, .int (nI (b41 + 1))), (4, .int (nI b41)), (0, .ref n0), (1, .ref h0)] dX6_init_138 rfl (nI_1 _) (by decide) rfl ?_
    refine zz_goto X 104 dX6_init_141 (by decide) ?_
    refine zz_ws (ws' := [(n0, .inr (6, [.ref h0, .ref q1, .ref q2, .ref q3, .ref q4, .ref q5, .int 1, .ref q6, .ref q7, .ref q8, .ref q9, .ref q10, .int 0, .int 0, .int 0, .int 0])), (h0, .inr (4, [.ref hc, .ref ha, .ref hz, .int used, .int (nI k248), .int top, .int end_, .int full])), (hc, .inl (cA 1, 886000, .inl f249)), (q1, .inl (cA 1, 16384, .inl ft247)), (q2, .inl (cA 1, 12288, .inl (fun _ => 0))), (q3, .inl (cA 1, 12288, .inl (fun _ => 0))), (q4, .inl (cA 1, 12288, .inl (fun _ => 0))), (q5, .inl (cA 1, 12288, .inl (fun _ => 0))), (q6, .inl (cA 1, 19, .inl (upd wf9 i9 r51))), (q7, .inl (cA 1, 256, .inl (fun _ => 0))), (q8, .inl (cA 1, 70, .inl (fun _ => 0))), (q9, .inl (cA 1, 70, .inl (fun _ => 0))), (q10, .inl (cA 1, 32, .inl lf250))]) [8, 9, 10, 11, 0, 1, 2, 3, 4, 5, 6, 7, 12] (by decide) rfl rfl ?_
    refine zz_lv (lv' := [(3, .int (nI (i9 + 1))), (2, .int (nI (b41 + 1))), (0, .ref n0), (1, .ref h0)]) [0, 1, 3, 4] rfl ?_
    exact ih_104 (i9 + 1, (b41 + 1), ft247, k248, f249, lf250, upd wf9 i9 r51) (show (i9 + 1) ≤ 19 ∧ (b41 + 1) ≤ len.getD iw 0 + 1 + (i9 + 1) ∧ zNT ft247 f249 k248 ∧ k ≤ k248 ∧ ∀ j : Nat, (60000 ≤ j ∨ j < 16) → f249 j = fc j from ⟨by omega, by omega, hS9.1, Nat.le_trans hI_104.2.2.2.1 hS9.2.1, fun j hj => (hS9.2.2.2 j hj).trans (hI_104.2.2.2.2 j hj)⟩) (show (19 - (i9 + 1)) < (19 - i9) from (by omega))
