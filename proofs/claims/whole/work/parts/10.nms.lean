set_option maxHeartbeats 4000000 in
set_option maxRecDepth 100000 in
/-- x >>> 4, unsigned -/
def zu4 (x : Int32) : Int32 := (x.toUInt32 >>> ((4 : Int32).toUInt32 &&& Int32.toUInt32 31)).toInt32
theorem zn_ix {f : Nat → Int32} {n : Nat} (h : n < 2 ^ 31) : f (nI n).toNatClampNeg = f n := by rw [nI_clamp h]
theorem zn_lt {a b : Nat} (h : ¬ nI b ≤ nI a) (ha : a < 2 ^ 31) : a < b := Nat.lt_of_not_le (fun q => h (nI_le q ha))
theorem zn_ge {a b : Nat} (h : nI b ≤ nI a) (ha : a < 2 ^ 31) (hb : b < 2 ^ 31) : b ≤ a := (nI_leI hb ha).mp h
theorem zn_eq {a b : Nat} (h : nI a = nI b) (ha : a < 2 ^ 31) (hb : b < 2 ^ 31) : a = b := (nI_eq ha hb).mp h

set_option maxHeartbeats 4000000 in
set_option maxRecDepth 100000 in
theorem zn_or (a b : Nat) : nI a ||| nI b = nI (a ||| b) := by
  apply Int32.toBitVec_inj.mp
  show BitVec.ofNat 32 a ||| BitVec.ofNat 32 b = BitVec.ofNat 32 (a ||| b)
  apply BitVec.eq_of_getLsbD_eq
  intro i hi
  simp [BitVec.getLsbD_or, BitVec.getLsbD_ofNat, Nat.testBit_or, hi]
theorem zn_or4 (n : Nat) : (4 : Int32) ||| nI (n * 2 ^ 4) = nI (n * 2 ^ 4 + 4) := by
  have h := zn_or 4 (n * 2 ^ 4)
  have e : 4 ||| n * 2 ^ 4 = n * 2 ^ 4 + 4 := by
    rw [Nat.or_comm, Nat.mul_comm n]
    exact (Nat.two_pow_add_eq_or_of_lt (by decide) n).symm
  rw [e] at h
  exact h
theorem zu4_nI {m : Nat} (h : m < 2 ^ 32) : zu4 (nI m) = nI (m / 16) := pk_ushrN h 4 4 (by decide)
theorem zn_kept {fc fr : Nat → Int32} {k f n : Nat} (hn : n < 2 ^ 20) : zu4 (va_cpy fr (upd fc k (nI (n * 2 ^ 4 + 4))) f (k + 1) n k) = nI n := by
  rw [pk_cpy_out (by omega), pk_us, zu4_nI (by omega)]
  congr 1
  omega
theorem zn_keptO {fc fr : Nat → Int32} {k f n : Nat} {x : Int32} : ∀ j : Nat, (j < k ∨ k + n + 1 ≤ j) → va_cpy fr (upd fc k x) f (k + 1) n j = fc j := by
  intro j hj
  rw [pk_cpy_out (by omega), pk_un (by omega)]
theorem zn_keptI {fc fr : Nat → Int32} {k f n : Nat} {x : Int32} : ∀ j : Nat, j < n → va_cpy fr (upd fc k x) f (k + 1) n (k + 1 + j) = fr (f + j) := by
  intro j hj
  rw [pk_cpy_in (by omega) (by omega)]
  congr 1
  omega

set_option maxHeartbeats 4000000 in
set_option maxRecDepth 100000 in
/-- stopOf: the place of the next blank, or the end -/
theorem kX6_stopOf {E : zEn} (hE : zOk E) (l : Launch) (D : va_G) (cA : Nat → ClassId) (N : Nat) (len : List Nat) (byt : List (List Int32)) (K : Nat → Nat) (V : Nat → Nat) (i : Nat) (f : Nat) (hs : zSt E N len byt K V) (hi : i < N) (hf : f < 2 ^ 30) : zMi E l yX6_stopOf wsX6_stopOf ({ frames := 4, cells := 0, slots := 0, locals := 85 }) D vwCl (zT cA) [.ref (K i), .int (nI f)] [] (S := Nat) (fun (r : Int32) (u : Nat) => (r = nI u) ∧ (f ≤ u) ∧ (u ≤ max f (len.getD i 0))) (fun (u : Nat) => []) := by
  refine zz_enteri (cc := cX6_stopOf) (lv := [(0, .ref (K i)), (1, .int (nI f))]) hE 3 (by decide) rfl (Nat.le_of_ble_eq_true rfl) rfl ?_
  intro p e s m args below meth c X hr hin
  refine zz_iload_n X 1 dX6_stopOf_0 rfl rfl ?_
  refine zz_istore_n X [(2, .int (nI f)), (0, .ref (K i)), (1, .int (nI f))] dX6_stopOf_1 rfl (by decide) rfl ?_
  refine zz_ind (α := Nat) (fun a => max f (len.getD i 0) - a) (fun a => f ≤ a ∧ a ≤ max f (len.getD i 0)) (fun a => []) (fun a => [(2, .int (nI a)), (0, .ref (K i)), (1, .int (nI f))]) (fun a => []) (f) (⟨Nat.le_refl _, Nat.le_max_left _ _⟩) rfl rfl rfl ?_
  intro a hI_2 ih_2
  obtain ⟨j, rfl⟩ : ∃ z, z = a := ⟨_, rfl⟩
  refine zz_at (ws' := []) (lv' := [(2, .int (nI j)), (0, .ref (K i)), (1, .int (nI f))]) (st' := []) rfl rfl rfl ?_
  have hL := hs.2.2.2 i hi
  have hj2 : j < 2 ^ 31 := by omega
  refine zz_iload_n X 0 dX6_stopOf_2 rfl rfl ?_
  refine zz_aload_n X 1 dX6_stopOf_3 rfl rfl ?_
  refine zz_callTi X (rest := [.int (nI j)]) (As := []) (kJ0_length hE l D cA N len byt K V i hs hi) 0 gX6_stopOf_J0_length_8abf5 rfl (by decide +kernel) [] [] [] rfl rfl (by decide) rfl (by decide) (by decide) ⟨Nat.le_of_ble_eq_true rfl, Nat.le_of_ble_eq_true rfl⟩ (zz_recvS X hs hi) rfl rfl rfl (Nat.le_of_ble_eq_true rfl) dX6_stopOf_4 (Nat.le_of_ble_eq_true rfl) (Nat.le_of_ble_eq_true rfl) (fun r1 _ hw2 => ?_)
  obtain rfl := hw2
  refine zz_show (ws' := []) rfl ?_
  refine zz_icmp_ge X 26 dX6_stopOf_7 (by decide) (fun hjc => ?_) (fun hjc => ?_)
  · skip
    refine zz_iload_n X 0 dX6_stopOf_26 rfl rfl ?_
    exact zz_iret X hr (j) [] (by decide) rfl rfl (Nat.le_of_ble_eq_true rfl) (Nat.le_of_ble_eq_true rfl) (⟨rfl, hI_2.1, hI_2.2⟩) dX6_stopOf_27
  · skip
    have hjl : j < (len.getD i 0) := Nat.lt_of_not_le (fun h => hjc (nI_le h (by omega)))
    refine zz_aload_n X 1 dX6_stopOf_10 rfl rfl ?_
    refine zz_iload_n X 0 dX6_stopOf_11 rfl rfl ?_
    refine zz_callTi X (rest := []) (As := [.int (nI j)]) (kJ0_charAt hE l D cA N len byt K V i j hs hi hjl) 1 gX6_stopOf_J0_charAt_5068e rfl (by decide +kernel) [] [] [] rfl rfl (by decide) rfl (by decide) (by decide) ⟨Nat.le_of_ble_eq_true rfl, Nat.le_of_ble_eq_true rfl⟩ (zz_recvS X hs hi) rfl rfl rfl (Nat.le_of_ble_eq_true rfl) dX6_stopOf_12 (Nat.le_of_ble_eq_true rfl) (Nat.le_of_ble_eq_true rfl) (fun r3 _ hw4 => ?_)
    obtain rfl := hw4
    refine zz_show (ws' := []) rfl ?_
    refine zz_bipush X 32 dX6_stopOf_15 rfl ?_
    refine zz_icmp_eq X 26 dX6_stopOf_17 (by decide) (fun c17 => ?_) (fun c17 => ?_)
    · skip
      refine zz_iload_n X 0 dX6_stopOf_26 rfl rfl ?_
      exact zz_iret X hr (j) [] (by decide) rfl rfl (Nat.le_of_ble_eq_true rfl) (Nat.le_of_ble_eq_true rfl) (⟨rfl, hI_2.1, hI_2.2⟩) dX6_stopOf_27
    · skip
      refine zz_iinc X 0 ((nI (j + 1))) [(2, .int (nI (j + 1))), (0, .ref (K i)), (1, .int (nI f))] dX6_stopOf_20 rfl (nI_1 j) (by decide) rfl ?_
      refine zz_goto X 2 dX6_stopOf_23 (by decide) ?_
      exact ih_2 (j + 1) (⟨by omega, by omega⟩) (by omega)

set_option maxHeartbeats 4000000 in
set_option maxRecDepth 100000 in
/-- same: no index is out of its row -/
theorem kX6_same {E : zEn} (hE : zOk E) (l : Launch) (D : va_G) (cA : Nat → ClassId) (h0 : Nat) (hc : Nat) (ha : Nat) (hs : Nat) (used : Int32) (kept : Int32) (top : Int32) (end_ : Int32) (full : Int32) (n0 : Nat) (tb : Nat) (pa : Nat) (nm : Nat) (ch : Nat) (sb : Nat) (nodes : Int32) (wd : Nat) (bu : Nat) (ki : Nat) (ar : Nat) (le : Nat) (fi : Int32) (fd : Int32) (fs : Int32) (fb : Int32) (fc : Nat → Int32) (sr : Nat) (sl : Nat) (fr : Nat → Int32) (h : Nat) (f : Nat) (n : Nat) (w : Nat) (hw : zu4 (fc h) = nI w) (hb : h + 1 + w ≤ 886000) (hf : f + n ≤ sl) (hsl : sl < 2 ^ 31) : zMi E l yX6_same wsX6_same ({ frames := 0, cells := 0, slots := 0, locals := 0 }) D vwCl (zT cA) [.ref n0, .int (nI h), .ref sr, .int (nI f), .int (nI n)] [(n0, .inr (6, [.ref h0, .ref tb, .ref pa, .ref nm, .ref ch, .ref sb, .int nodes, .ref wd, .ref bu, .ref ki, .ref ar, .ref le, .int fi, .int fd, .int fs, .int fb])), (h0, .inr (4, [.ref hc, .ref ha, .ref hs, .int used, .int kept, .int top, .int end_, .int full])), (hc, .inl (cA 1, 886000, .inl fc)), (sr, .inl (cA 1, sl, .inl fr))] (S := Unit) (fun (r : Int32) (u : Unit) => (r = 0 ∨ r = 1)) (fun (u : Unit) => [(n0, .inr (6, [.ref h0, .ref tb, .ref pa, .ref nm, .ref ch, .ref sb, .int nodes, .ref wd, .ref bu, .ref ki, .ref ar, .ref le, .int fi, .int fd, .int fs, .int fb])), (h0, .inr (4, [.ref hc, .ref ha, .ref hs, .int used, .int kept, .int top, .int end_, .int full])), (hc, .inl (cA 1, 886000, .inl fc)), (sr, .inl (cA 1, sl, .inl fr))]) := by
  refine zz_enterz (cc := cX6_same) (lv := [(0, .ref n0), (1, .int (nI h)), (2, .ref sr), (3, .int (nI f)), (4, .int (nI n))]) hE 6 (by decide) rfl (Nat.le_of_ble_eq_true rfl) rfl ?_
  intro p e s m args below meth c X hr hin
  refine zz_aload_n X 0 dX6_same_0 rfl rfl ?_
  refine zz_get X 0 0 rfl rfl (by decide) inX6_same_X6 rfl (List.mem_of_getElem? (i := 1) rfl) rfl dX6_same_1 ?_
  refine zz_get X 1 0 rfl rfl (by decide) inX6_same_X4 rfl (List.mem_of_getElem? (i := 2) rfl) rfl dX6_same_4 ?_
  refine zz_iload_n X 1 dX6_same_7 rfl rfl ?_
  refine zz_iald X 2 1 rfl rfl (vp_in_nI (by omega) (by decide)) ((fc h)) (zn_ix (by omega)) dX6_same_8 ?_
  refine zz_iconst X 4 dX6_same_9 rfl ?_
  refine zz_iushr X ((nI w)) dX6_same_10 hw ?_
  refine zz_iload X 4 dX6_same_11 rfl ?_
  refine zz_icmp_eq X 18 dX6_same_13 (by decide) (fun c13 => ?_) (fun c13 => ?_)
  · skip
    have hwn : w = n := zn_eq c13 (by omega) (by omega)
    refine zz_iconst X 0 dX6_same_18 rfl ?_
    refine zz_istore X [(5, .int 0), (0, .ref n0), (1, .int (nI h)), (2, .ref sr), (3, .int (nI f)), (4, .int (nI n))] dX6_same_19 (by decide) rfl ?_
    refine zz_ind (α := Nat) (fun a => n - a) (fun a => a ≤ n) (fun a => [(n0, .inr (6, [.ref h0, .ref tb, .ref pa, .ref nm, .ref ch, .ref sb, .int nodes, .ref wd, .ref bu, .ref ki, .ref ar, .ref le, .int fi, .int fd, .int fs, .int fb])), (h0, .inr (4, [.ref hc, .ref ha, .ref hs, .int used, .int kept, .int top, .int end_, .int full])), (hc, .inl (cA 1, 886000, .inl fc)), (sr, .inl (cA 1, sl, .inl fr))]) (fun a => [(5, .int (nI a)), (0, .ref n0), (1, .int (nI h)), (2, .ref sr), (3, .int (nI f)), (4, .int (nI n))]) (fun a => []) (0) (Nat.zero_le _) rfl rfl rfl ?_
    intro a hI_21 ih_21
    obtain ⟨j, rfl⟩ : ∃ z, z = a := ⟨_, rfl⟩
    refine zz_at (ws' := [(n0, .inr (6, [.ref h0, .ref tb, .ref pa, .ref nm, .ref ch, .ref sb, .int nodes, .ref wd, .ref bu, .ref ki, .ref ar, .ref le, .int fi, .int fd, .int fs, .int fb])), (h0, .inr (4, [.ref hc, .ref ha, .ref hs, .int used, .int kept, .int top, .int end_, .int full])), (hc, .inl (cA 1, 886000, .inl fc)), (sr, .inl (cA 1, sl, .inl fr))]) (lv' := [(5, .int (nI j)), (0, .ref n0), (1, .int (nI h)), (2, .ref sr), (3, .int (nI f)), (4, .int (nI n))]) (st' := []) rfl rfl rfl ?_
    refine zz_iload X 0 dX6_same_21 rfl ?_
    refine zz_iload X 5 dX6_same_23 rfl ?_
    refine zz_icmp_ge X 59 dX6_same_25 (by decide) (fun c25 => ?_) (fun c25 => ?_)
    · skip
      refine zz_iconst X 1 dX6_same_59 rfl ?_
      exact zz_zret X hr (by decide) (()) [0, 1, 2, 3] (by decide) rfl rfl (Nat.le_of_ble_eq_true rfl) (Nat.le_of_ble_eq_true rfl) (Or.inr rfl) dX6_same_60
    · skip
      have hjn : j < n := zn_lt c25 (by omega)
      refine zz_aload_n X 1 dX6_same_28 rfl rfl ?_
      refine zz_get X 0 0 rfl rfl (by decide) inX6_same_X6 rfl (List.mem_of_getElem? (i := 1) rfl) rfl dX6_same_29 ?_
      refine zz_get X 1 0 rfl rfl (by decide) inX6_same_X4 rfl (List.mem_of_getElem? (i := 2) rfl) rfl dX6_same_32 ?_
      refine zz_iload_n X 2 dX6_same_35 rfl rfl ?_
      refine zz_iconst X 1 dX6_same_36 rfl ?_
      refine zz_iadd X ((nI (h + 1))) dX6_same_37 (nI_1 h) ?_
      refine zz_iload X 0 dX6_same_38 rfl ?_
      refine zz_iadd X ((nI (h + 1 + j))) dX6_same_40 (nI_add _ _) ?_
      refine zz_iald X 2 1 rfl rfl (vp_in_nI (by omega) (by decide)) ((fc (h + 1 + j))) (zn_ix (by omega)) dX6_same_41 ?_
      refine zz_aload_n X 3 dX6_same_42 rfl rfl ?_
      refine zz_iload_n X 4 dX6_same_43 rfl rfl ?_
      refine zz_iload X 0 dX6_same_44 rfl ?_
      refine zz_iadd X ((nI (f + j))) dX6_same_46 (nI_add _ _) ?_
      refine zz_iald X 3 1 rfl rfl (vp_in_nI (by omega) (by omega)) ((fr (f + j))) (zn_ix (by omega)) dX6_same_47 ?_
      refine zz_icmp_eq X 53 dX6_same_48 (by decide) (fun c48 => ?_) (fun c48 => ?_)
      · skip
        refine zz_iinc X 0 ((nI (j + 1))) [(5, .int (nI (j + 1))), (0, .ref n0), (1, .int (nI h)), (2, .ref sr), (3, .int (nI f)), (4, .int (nI n))] dX6_same_53 rfl (nI_1 j) (by decide) rfl ?_
        refine zz_goto X 21 dX6_same_56 (by decide) ?_
        exact ih_21 (j + 1) (by omega) (by omega)
      · skip
        refine zz_iconst X 0 dX6_same_51 rfl ?_
        exact zz_zret X hr (by decide) (()) [0, 1, 2, 3] (by decide) rfl rfl (Nat.le_of_ble_eq_true rfl) (Nat.le_of_ble_eq_true rfl) (Or.inl rfl) dX6_same_52
  · skip
    refine zz_iconst X 0 dX6_same_16 rfl ?_
    exact zz_zret X hr (by decide) (()) [0, 1, 2, 3] (by decide) rfl rfl (Nat.le_of_ble_eq_true rfl) (Nat.le_of_ble_eq_true rfl) (Or.inl rfl) dX6_same_17

set_option maxHeartbeats 4000000 in
set_option maxRecDepth 100000 in
/-- keepString: the bytes are kept from kept on, where there is room -/
theorem kX4_keepString {E : zEn} (hE : zOk E) (l : Launch) (D : va_G) (cA : Nat → ClassId) (h0 : Nat) (hc : Nat) (ha : Nat) (hs : Nat) (used : Int32) (top : Int32) (end_ : Int32) (full : Int32) (k : Nat) (fc : Nat → Int32) (sr : Nat) (sl : Nat) (fr : Nat → Int32) (f : Nat) (n : Nat) (hk : k ≤ 60000) (hf : f + n ≤ sl) (hsl : sl < 2 ^ 20) : zMi E l yX4_keepString wsX4_keepString ({ frames := 1, cells := 0, slots := 0, locals := 60 }) D vwCl (zT cA) [.ref h0, .ref sr, .int (nI f), .int (nI n)] [(h0, .inr (4, [.ref hc, .ref ha, .ref hs, .int used, .int (nI k), .int top, .int end_, .int full])), (hc, .inl (cA 1, 886000, .inl fc)), (sr, .inl (cA 1, sl, .inl fr))] (S := Nat × (Nat → Int32)) (fun (r : Int32) (u : Nat × (Nat → Int32)) => ((r = 1 ∧ u.1 = k ∧ u.2 = fc) ∨ (r = nI k ∧ u.1 = k + n + 1 ∧ k + n + 1 ≤ 60000 ∧ zu4 (u.2 k) = nI n ∧ (∀ j : Nat, (j < k ∨ k + n + 1 ≤ j) → u.2 j = fc j) ∧ ∀ j : Nat, j < n → u.2 (k + 1 + j) = fr (f + j)))) (fun (u : Nat × (Nat → Int32)) => [(h0, .inr (4, [.ref hc, .ref ha, .ref hs, .int used, .int (nI u.1), .int top, .int end_, .int full])), (hc, .inl (cA 1, 886000, .inl u.2)), (sr, .inl (cA 1, sl, .inl fr))]) := by
  refine zz_enteri (cc := cX4_keepString) (lv := [(0, .ref h0), (1, .ref sr), (2, .int (nI f)), (3, .int (nI n))]) hE 5 (by decide) rfl (Nat.le_of_ble_eq_true rfl) rfl ?_
  intro p e s m args below meth c X hr hin
  refine zz_aload_n X 0 dX4_keepString_0 rfl rfl ?_
  refine zz_get X 0 4 rfl rfl (by decide) inX4_keepString_X4 rfl (List.mem_of_getElem? (i := 1) rfl) rfl dX4_keepString_1 ?_
  refine zz_iload_n X 3 dX4_keepString_4 rfl rfl ?_
  refine zz_iadd X ((nI (k + n))) dX4_keepString_5 (nI_add _ _) ?_
  refine zz_iconst X 1 dX4_keepString_6 rfl ?_
  refine zz_iadd X ((nI (k + n + 1))) dX4_keepString_7 (nI_1 _) ?_
  refine zz_ldc X (List.mem_of_getElem? (i := 2) rfl) dX4_keepString_8 ?_
  refine zz_icmp_le X 15 dX4_keepString_10 (by decide) (fun c10 => ?_) (fun c10 => ?_)
  · skip
    have hle : k + n + 1 ≤ 60000 := zn_ge (a := 60000) c10 (by decide) (by omega)
    refine zz_aload_n X 0 dX4_keepString_15 rfl rfl ?_
    refine zz_get X 0 4 rfl rfl (by decide) inX4_keepString_X4 rfl (List.mem_of_getElem? (i := 1) rfl) rfl dX4_keepString_16 ?_
    refine zz_istore X [(4, .int (nI k)), (0, .ref h0), (1, .ref sr), (2, .int (nI f)), (3, .int (nI n))] dX4_keepString_19 (by decide) rfl ?_
    refine zz_aload_n X 1 dX4_keepString_21 rfl rfl ?_
    refine zz_dup X dX4_keepString_22 rfl ?_
    refine zz_get X 0 4 rfl rfl (by decide) inX4_keepString_X4 rfl (List.mem_of_getElem? (i := 1) rfl) rfl dX4_keepString_23 ?_
    refine zz_iload_n X 4 dX4_keepString_26 rfl rfl ?_
    refine zz_iconst X 1 dX4_keepString_27 rfl ?_
    refine zz_iadd X ((nI (n + 1))) dX4_keepString_28 (nI_1 _) ?_
    refine zz_iadd X ((nI (k + n + 1))) dX4_keepString_29 (nI_add _ _) ?_
    refine zz_put X 0 4 rfl rfl (by decide) inX4_keepString_X4 rfl (List.mem_of_getElem? (i := 1) rfl) tyX4 tyX4_ok nmX4 rfl (ty := .int) rfl rfl rfl (Nat.le_of_ble_eq_true rfl) dX4_keepString_30 [(h0, .inr (4, [.ref hc, .ref ha, .ref hs, .int used, .int (nI (k + n + 1)), .int top, .int end_, .int full])), (hc, .inl (cA 1, 886000, .inl fc)), (sr, .inl (cA 1, sl, .inl fr))] rfl ?_
    refine zz_aload_n X 1 dX4_keepString_33 rfl rfl ?_
    refine zz_get X 0 0 rfl rfl (by decide) inX4_keepString_X4 rfl (List.mem_of_getElem? (i := 3) rfl) rfl dX4_keepString_34 ?_
    refine zz_iload X 0 dX4_keepString_37 rfl ?_
    refine zz_iconst X 4 dX4_keepString_39 rfl ?_
    refine zz_iload_n X 4 dX4_keepString_40 rfl rfl ?_
    refine zz_iconst X 4 dX4_keepString_41 rfl ?_
    refine zz_ishl X ((nI (n * 2 ^ 4))) dX4_keepString_42 (pk_shlN _ 4 (by decide) (by omega)) ?_
    refine zz_ior X ((nI (n * 2 ^ 4 + 4))) dX4_keepString_43 (zn_or4 n) ?_
    refine zz_iast X 1 1 rfl rfl (vp_in_nI (by omega) (by decide)) k (nI_clamp (by omega)) dX4_keepString_44 [(h0, .inr (4, [.ref hc, .ref ha, .ref hs, .int used, .int (nI (k + n + 1)), .int top, .int end_, .int full])), (hc, .inl (cA 1, 886000, .inl (upd fc k (nI (n * 2 ^ 4 + 4))))), (sr, .inl (cA 1, sl, .inl fr))] rfl ?_
    refine zz_aload_n X 2 dX4_keepString_45 rfl rfl ?_
    refine zz_iload_n X 3 dX4_keepString_46 rfl rfl ?_
    refine zz_aload_n X 1 dX4_keepString_47 rfl rfl ?_
    refine zz_get X 0 0 rfl rfl (by decide) inX4_keepString_X4 rfl (List.mem_of_getElem? (i := 3) rfl) rfl dX4_keepString_48 ?_
    refine zz_iload X 0 dX4_keepString_51 rfl ?_
    refine zz_iconst X 1 dX4_keepString_53 rfl ?_
    refine zz_iadd X ((nI (k + 1))) dX4_keepString_54 (nI_1 _) ?_
    refine zz_iload_n X 4 dX4_keepString_55 rfl rfl ?_
    refine zz_copyi X 2 1 1 1 (List.mem_of_getElem? (i := 4) rfl) (List.mem_of_getElem? (i := 5) rfl) (List.mem_of_getElem? (i := 6) rfl) (List.mem_of_getElem? (i := 7) rfl) rfl rfl rfl rfl rfl (nI_pos (by omega)) (nI_pos (by omega)) (nI_pos (by omega)) f (k + 1) n (nI_clamp (by omega)) (nI_clamp (by omega)) (nI_clamp (by omega)) (by omega) (by omega) (fun _ => rfl)  (Nat.le_of_ble_eq_true rfl) (Nat.le_of_ble_eq_true rfl) dX4_keepString_56 [(h0, .inr (4, [.ref hc, .ref ha, .ref hs, .int used, .int (nI (k + n + 1)), .int top, .int end_, .int full])), (hc, .inl (cA 1, 886000, .inl (va_cpy fr (upd fc k (nI (n * 2 ^ 4 + 4))) f (k + 1) n))), (sr, .inl (cA 1, sl, .inl fr))] rfl ?_
    refine zz_iload X 0 dX4_keepString_59 rfl ?_
    exact zz_iret X hr ((k + n + 1, va_cpy fr (upd fc k (nI (n * 2 ^ 4 + 4))) f (k + 1) n)) [0, 1, 2] (by decide) rfl rfl (Nat.le_of_ble_eq_true rfl) (Nat.le_of_ble_eq_true rfl) (Or.inr ⟨rfl, rfl, hle, zn_kept (by omega), zn_keptO, zn_keptI⟩) dX4_keepString_61
  · skip
    refine zz_iconst X 1 dX4_keepString_13 rfl ?_
    exact zz_iret X hr ((k, fc)) [0, 1, 2] (by decide) rfl rfl (Nat.le_of_ble_eq_true rfl) (Nat.le_of_ble_eq_true rfl) (Or.inl ⟨rfl, rfl, rfl⟩) dX4_keepString_14

set_option maxHeartbeats 4000000 in
set_option maxRecDepth 100000 in
/-- the table of names: each place holds a kept string, or 0, or 1 -/
def zNT (ft fc : Nat → Int32) (k : Nat) : Prop := 16 ≤ k ∧ k ≤ 60000 ∧ zu4 (fc 1) = nI 0 ∧ ∀ j : Nat, j < 16384 → ∃ a w : Nat, ft j = nI a ∧ a < k ∧ zu4 (fc a) = nI w ∧ a + 1 + w ≤ 886000
theorem zNT_kept {ft fc f2 fr : Nat → Int32} {k k2 f n s0 : Nat} {r : Int32} (h : zNT ft fc k) (hd : (r = 1 ∧ k2 = k ∧ f2 = fc) ∨ (r = nI k ∧ k2 = k + n + 1 ∧ k + n + 1 ≤ 60000 ∧ zu4 (f2 k) = nI n ∧ (∀ j : Nat, (j < k ∨ k + n + 1 ≤ j) → f2 j = fc j) ∧ ∀ j : Nat, j < n → f2 (k + 1 + j) = fr (f + j))) :
    zNT (upd ft s0 r) f2 k2 ∧ k ≤ k2 ∧ (∃ a : Nat, a < k2 ∧ r = nI a) ∧ ∀ j : Nat, (60000 ≤ j ∨ j < 16) → f2 j = fc j := by
  obtain ⟨h16, h60, h1, ht⟩ := h
  rcases hd with ⟨rfl, rfl, rfl⟩ | ⟨rfl, rfl, hle, hz, ho, -⟩
  · refine ⟨⟨h16, h60, h1, fun j hj => ?_⟩, Nat.le_refl _, ⟨1, by omega, rfl⟩, fun _ _ => rfl⟩
    by_cases e : j = s0
    · subst e
      exact ⟨1, 0, pk_us, by omega, h1, by omega⟩
    · rw [pk_un e]
      exact ht j hj
  · refine ⟨⟨by omega, by omega, ?_, fun j hj => ?_⟩, by omega, ⟨k, by omega, rfl⟩, fun j hj => ho j (by omega)⟩
    · rw [ho 1 (by omega)]
      exact h1
    · by_cases e : j = s0
      · subst e
        exact ⟨k, n, pk_us, by omega, hz, by omega⟩
      · rw [pk_un e]
        obtain ⟨a, w, g1, g2, g3, g4⟩ := ht j hj
        exact ⟨a, w, g1, by omega, by rw [ho a (by omega)]; exact g3, g4⟩

set_option maxHeartbeats 4000000 in
set_option maxRecDepth 100000 in
/-- sym: the table stays right -/
theorem kX6_sym {E : zEn} (hE : zOk E) (l : Launch) (D : va_G) (cA : Nat → ClassId) (h0 : Nat) (hc : Nat) (ha : Nat) (hs : Nat) (used : Int32) (top : Int32) (end_ : Int32) (full : Int32) (k : Nat) (n0 : Nat) (tb : Nat) (pa : Nat) (nm : Nat) (ch : Nat) (sb : Nat) (nodes : Int32) (wd : Nat) (bu : Nat) (ki : Nat) (ar : Nat) (le : Nat) (fi : Int32) (fd : Int32) (fs : Int32) (fb : Int32) (fc : Nat → Int32) (ft : Nat → Int32) (sr : Nat) (sl : Nat) (fr : Nat → Int32) (f : Nat) (n : Nat) (hnt : zNT ft fc k) (hf : f + n ≤ sl) (hsl : sl < 2 ^ 20) : zMi E l yX6_sym wsX6_sym ({ frames := 2, cells := 0, slots := 0, locals := 84 }) D vwCl (zT cA) [.ref n0, .ref sr, .int (nI f), .int (nI n)] [(n0, .inr (6, [.ref h0, .ref tb, .ref pa, .ref nm, .ref ch, .ref sb, .int nodes, .ref wd, .ref bu, .ref ki, .ref ar, .ref le, .int fi, .int fd, .int fs, .int fb])), (h0, .inr (4, [.ref hc, .ref ha, .ref hs, .int used, .int (nI k), .int top, .int end_, .int full])), (hc, .inl (cA 1, 886000, .inl fc)), (tb, .inl (cA 1, 16384, .inl ft)), (sr, .inl (cA 1, sl, .inl fr))] (S := (Nat → Int32) × Nat × (Nat → Int32)) (fun (r : Int32) (u : (Nat → Int32) × Nat × (Nat → Int32)) => (zNT u.1 u.2.2 u.2.1) ∧ (k ≤ u.2.1) ∧ (r = fb ∨ ∃ a : Nat, a < u.2.1 ∧ r = nI a) ∧ (∀ j : Nat, (60000 ≤ j ∨ j < 16) → u.2.2 j = fc j)) (fun (u : (Nat → Int32) × Nat × (Nat → Int32)) => [(n0, .inr (6, [.ref h0, .ref tb, .ref pa, .ref nm, .ref ch, .ref sb, .int nodes, .ref wd, .ref bu, .ref ki, .ref ar, .ref le, .int fi, .int fd, .int fs, .int fb])), (h0, .inr (4, [.ref hc, .ref ha, .ref hs, .int used, .int (nI u.2.1), .int top, .int end_, .int full])), (hc, .inl (cA 1, 886000, .inl u.2.2)), (tb, .inl (cA 1, 16384, .inl u.1)), (sr, .inl (cA 1, sl, .inl fr))]) := by
  refine zz_enteri (cc := cX6_sym) (lv := [(0, .ref n0), (1, .ref sr), (2, .int (nI f)), (3, .int (nI n))]) hE 8 (by decide) rfl (Nat.le_of_ble_eq_true rfl) rfl ?_
  intro p e s m args below meth c X hr hin
  refine zz_iload_n X 3 dX6_sym_0 rfl rfl ?_
  refine zz_istore X [(4, .int (nI n)), (0, .ref n0), (1, .ref sr), (2, .int (nI f)), (3, .int (nI n))] dX6_sym_1 (by decide) rfl ?_
  refine zz_iconst X 0 dX6_sym_3 rfl ?_
  refine zz_istore X [(5, .int 0), (4, .int (nI n)), (0, .ref n0), (1, .ref sr), (2, .int (nI f)), (3, .int (nI n))] dX6_sym_4 (by decide) rfl ?_
  refine zz_ind (α := Nat × Int32) (fun a => n - a.1) (fun a => a.1 ≤ n) (fun a => [(n0, .inr (6, [.ref h0, .ref tb, .ref pa, .ref nm, .ref ch, .ref sb, .int nodes, .ref wd, .ref bu, .ref ki, .ref ar, .ref le, .int fi, .int fd, .int fs, .int fb])), (h0, .inr (4, [.ref hc, .ref ha, .ref hs, .int used, .int (nI k), .int top, .int end_, .int full])), (hc, .inl (cA 1, 886000, .inl fc)), (tb, .inl (cA 1, 16384, .inl ft)), (sr, .inl (cA 1, sl, .inl fr))]) (fun a => [(5, .int (nI a.1)), (4, .int a.2), (0, .ref n0), (1, .ref sr), (2, .int (nI f)), (3, .int (nI n))]) (fun a => []) (0, nI n) (Nat.zero_le _) rfl rfl rfl ?_
  intro a hI_6 ih_6
  obtain ⟨j, hx⟩ := a
  refine zz_at (ws' := [(n0, .inr (6, [.ref h0, .ref tb, .ref pa, .ref nm, .ref ch, .ref sb, .int nodes, .ref wd, .ref bu, .ref ki, .ref ar, .ref le, .int fi, .int fd, .int fs, .int fb])), (h0, .inr (4, [.ref hc, .ref ha, .ref hs, .int used, .int (nI k), .int top, .int end_, .int full])), (hc, .inl (cA 1, 886000, .inl fc)), (tb, .inl (cA 1, 16384, .inl ft)), (sr, .inl (cA 1, sl, .inl fr))]) (lv' := [(5, .int (nI j)), (4, .int hx), (0, .ref n0), (1, .ref sr), (2, .int (nI f)), (3, .int (nI n))]) (st' := []) rfl rfl rfl ?_
  refine zz_iload X 0 dX6_sym_6 rfl ?_
  refine zz_iload_n X 5 dX6_sym_8 rfl rfl ?_
  refine zz_icmp_ge X 32 dX6_sym_9 (by decide) (fun c9 => ?_) (fun c9 => ?_)
  · skip
    refine zz_iload X 1 dX6_sym_32 rfl ?_
    refine zz_iload X 1 dX6_sym_34 rfl ?_
    refine zz_bipush X 15 dX6_sym_36 rfl ?_
    refine zz_iushr X (((hx).toUInt32 >>> ((15 : Int32).toUInt32 &&& Int32.toUInt32 31)).toInt32) dX6_sym_38 rfl ?_
    refine zz_ixor X ((hx ^^^ ((hx).toUInt32 >>> ((15 : Int32).toUInt32 &&& Int32.toUInt32 31)).toInt32)) dX6_sym_39 rfl ?_
    refine zz_sipush X 16383 dX6_sym_40 rfl ?_
    obtain ⟨s9, hs9, es9⟩ := pk_andE (hx ^^^ ((hx).toUInt32 >>> ((15 : Int32).toUInt32 &&& Int32.toUInt32 31)).toInt32) (m := 16383) 14 (by decide)
    refine zz_iand X ((nI s9)) dX6_sym_43 es9 ?_
    refine zz_istore X [(5, .int (nI s9)), (4, .int hx), (0, .ref n0), (1, .ref sr), (2, .int (nI f)), (3, .int (nI n))] dX6_sym_44 (by decide) rfl ?_
    refine zz_iconst X 0 dX6_sym_46 rfl ?_
    refine zz_istore X [(6, .int 0), (5, .int (nI s9)), (4, .int hx), (0, .ref n0), (1, .ref sr), (2, .int (nI f)), (3, .int (nI n))] dX6_sym_47 (by decide) rfl ?_
    refine zz_ind (α := Nat × Nat) (fun a => 16384 - a.1) (fun a => a.2 < 16384 ∧ a.1 ≤ 16384) (fun a => [(n0, .inr (6, [.ref h0, .ref tb, .ref pa, .ref nm, .ref ch, .ref sb, .int nodes, .ref wd, .ref bu, .ref ki, .ref ar, .ref le, .int fi, .int fd, .int fs, .int fb])), (h0, .inr (4, [.ref hc, .ref ha, .ref hs, .int used, .int (nI k), .int top, .int end_, .int full])), (hc, .inl (cA 1, 886000, .inl fc)), (tb, .inl (cA 1, 16384, .inl ft)), (sr, .inl (cA 1, sl, .inl fr))]) (fun a => [(6, .int (nI a.1)), (5, .int (nI a.2)), (4, .int hx), (0, .ref n0), (1, .ref sr), (2, .int (nI f)), (3, .int (nI n))]) (fun a => []) (0, s9) (⟨hs9, Nat.zero_le _⟩) rfl rfl rfl ?_
    intro a hI_49 ih_49
    obtain ⟨i, s0⟩ := a
    refine zz_at (ws' := [(n0, .inr (6, [.ref h0, .ref tb, .ref pa, .ref nm, .ref ch, .ref sb, .int nodes, .ref wd, .ref bu, .ref ki, .ref ar, .ref le, .int fi, .int fd, .int fs, .int fb])), (h0, .inr (4, [.ref hc, .ref ha, .ref hs, .int used, .int (nI k), .int top, .int end_, .int full])), (hc, .inl (cA 1, 886000, .inl fc)), (tb, .inl (cA 1, 16384, .inl ft)), (sr, .inl (cA 1, sl, .inl fr))]) (lv' := [(6, .int (nI i)), (5, .int (nI s0)), (4, .int hx), (0, .ref n0), (1, .ref sr), (2, .int (nI f)), (3, .int (nI n))]) (st' := []) rfl rfl rfl ?_
    refine zz_iload X 0 dX6_sym_49 rfl ?_
    refine zz_sipush X 16384 dX6_sym_51 rfl ?_
    refine zz_icmp_ge X 127 dX6_sym_54 (by decide) (fun c54 => ?_) (fun c54 => ?_)
    · skip
      refine zz_aload_n X 3 dX6_sym_127 rfl rfl ?_
      refine zz_get X 0 15 rfl rfl (by decide) inX6_sym_X6 rfl (List.mem_of_getElem? (i := 3) rfl) rfl dX6_sym_128 ?_
      exact zz_iret X hr ((ft, k, fc)) [0, 1, 2, 3, 4] (by decide) rfl rfl (Nat.le_of_ble_eq_true rfl) (Nat.le_of_ble_eq_true rfl) (⟨hnt, Nat.le_refl _, Or.inl rfl, fun _ _ => rfl⟩) dX6_sym_131
    · skip
      have hi4 : i < 16384 := zn_lt (b := 16384) c54 (by omega)
      obtain ⟨a, w, ea, hak, hw, haw⟩ := hnt.2.2.2 s0 hI_49.1
      have hk60 := hnt.2.1
      refine zz_aload_n X 3 dX6_sym_57 rfl rfl ?_
      refine zz_get X 0 1 rfl rfl (by decide) inX6_sym_X6 rfl (List.mem_of_getElem? (i := 1) rfl) rfl dX6_sym_58 ?_
      refine zz_iload X 1 dX6_sym_61 rfl ?_
      refine zz_iald X 3 1 rfl rfl (vp_in_nI (by omega) (by decide)) ((nI a)) ((zn_ix (by omega)).trans ea) dX6_sym_63 ?_
      refine zz_istore X [(7, .int (nI a)), (6, .int (nI i)), (5, .int (nI s0)), (4, .int hx), (0, .ref n0), (1, .ref sr), (2, .int (nI f)), (3, .int (nI n))] dX6_sym_64 (by decide) rfl ?_
      refine zz_iload X 0 dX6_sym_66 rfl ?_
      refine zz_if_ne X 96 dX6_sym_68 (by decide) (fun c68 => ?_) (fun c68 => ?_)
      · skip
        refine zz_aload_n X 4 dX6_sym_96 rfl rfl ?_
        refine zz_iload X 0 dX6_sym_97 rfl ?_
        refine zz_aload_n X 5 dX6_sym_99 rfl rfl ?_
        refine zz_iload_n X 6 dX6_sym_100 rfl rfl ?_
        refine zz_iload_n X 7 dX6_sym_101 rfl rfl ?_
        refine zz_callVi X (rest := []) (As := [.int (nI a), .ref sr, .int (nI f), .int (nI n)]) (kX6_same hE l D cA h0 hc ha hs used (nI k) top end_ full n0 tb pa nm ch sb nodes wd bu ki ar le fi fd fs fb fc sr sl fr a f n w hw haw hf (by omega)) 4 gX6_sym_X6_same rfl (by decide +kernel) [0, 1, 2, 4] [3] [(tb, .inl (cA 1, 16384, .inl ft))] rfl rfl (by decide) rfl (by decide) (by decide) ⟨Nat.le_of_ble_eq_true rfl, Nat.le_of_ble_eq_true rfl⟩ 0 rfl rfl rfl rfl rfl (Nat.le_of_ble_eq_true rfl) dX6_sym_102 (Nat.le_of_ble_eq_true rfl) (Nat.le_of_ble_eq_true rfl) (fun r1 _ hw2 => ?_)
        refine zz_show (ws' := [(tb, .inl (cA 1, 16384, .inl ft)), (n0, .inr (6, [.ref h0, .ref tb, .ref pa, .ref nm, .ref ch, .ref sb, .int nodes, .ref wd, .ref bu, .ref ki, .ref ar, .ref le, .int fi, .int fd, .int fs, .int fb])), (h0, .inr (4, [.ref hc, .ref ha, .ref hs, .int used, .int (nI k), .int top, .int end_, .int full])), (hc, .inl (cA 1, 886000, .inl fc)), (sr, .inl (cA 1, sl, .inl fr))]) rfl ?_
        refine zz_if_eq X 111 dX6_sym_105 (by decide) (fun c105 => ?_) (fun c105 => ?_)
        · skip
          refine zz_iload X 2 dX6_sym_111 rfl ?_
          refine zz_iconst X 1 dX6_sym_113 rfl ?_
          refine zz_iadd X ((nI (s0 + 1))) dX6_sym_114 (nI_1 _) ?_
          refine zz_sipush X 16383 dX6_sym_115 rfl ?_
          obtain ⟨s1, hs1, es1⟩ := pk_andE (nI (s0 + 1)) (m := 16383) 14 (by decide)
          refine zz_iand X ((nI s1)) dX6_sym_118 es1 ?_
          refine zz_istore X [(5, .int (nI s1)), (7, .int (nI a)), (6, .int (nI i)), (4, .int hx), (0, .ref n0), (1, .ref sr), (2, .int (nI f)), (3, .int (nI n))] dX6_sym_119 (by decide) rfl ?_
          refine zz_iinc X 2 ((nI (i + 1))) [(6, .int (nI (i + 1))), (5, .int (nI s1)), (7, .int (nI a)), (4, .int hx), (0, .ref n0), (1, .ref sr), (2, .int (nI f)), (3, .int (nI n))] dX6_sym_121 rfl (nI_1 i) (by decide) rfl ?_
          refine zz_goto X 49 dX6_sym_124 (by decide) ?_
          refine zz_ws (ws' := [(n0, .inr (6, [.ref h0, .ref tb, .ref pa, .ref nm, .ref ch, .ref sb, .int nodes, .ref wd, .ref bu, .ref ki, .ref ar, .ref le, .int fi, .int fd, .int fs, .int fb])), (h0, .inr (4, [.ref hc, .ref ha, .ref hs, .int used, .int (nI k), .int top, .int end_, .int full])), (hc, .inl (cA 1, 886000, .inl fc)), (tb, .inl (cA 1, 16384, .inl ft)), (sr, .inl (cA 1, sl, .inl fr))]) [1, 2, 3, 0, 4] (by decide) rfl rfl ?_
          refine zz_lv (lv' := [(6, .int (nI (i + 1))), (5, .int (nI s1)), (4, .int hx), (0, .ref n0), (1, .ref sr), (2, .int (nI f)), (3, .int (nI n))]) [0, 1, 3, 4, 5, 6, 7] rfl ?_
          exact ih_49 (i + 1, s1) (⟨hs1, by omega⟩) (by omega)
        · skip
          refine zz_iload X 0 dX6_sym_108 rfl ?_
          exact zz_iret X hr ((ft, k, fc)) [1, 2, 3, 0, 4] (by decide) rfl rfl (Nat.le_of_ble_eq_true rfl) (Nat.le_of_ble_eq_true rfl) (⟨hnt, Nat.le_refl _, Or.inr ⟨a, hak, rfl⟩, fun _ _ => rfl⟩) dX6_sym_110
      · skip
        refine zz_aload_n X 4 dX6_sym_71 rfl rfl ?_
        refine zz_get X 0 1 rfl rfl (by decide) inX6_sym_X6 rfl (List.mem_of_getElem? (i := 1) rfl) rfl dX6_sym_72 ?_
        refine zz_iload X 2 dX6_sym_75 rfl ?_
        refine zz_aload_n X 4 dX6_sym_77 rfl rfl ?_
        refine zz_get X 0 0 rfl rfl (by decide) inX6_sym_X6 rfl (List.mem_of_getElem? (i := 2) rfl) rfl dX6_sym_78 ?_
        refine zz_aload_n X 5 dX6_sym_81 rfl rfl ?_
        refine zz_iload_n X 6 dX6_sym_82 rfl rfl ?_
        refine zz_iload_n X 7 dX6_sym_83 rfl rfl ?_
        refine zz_callVi X (rest := [.int (nI s0), .ref tb]) (As := [.ref sr, .int (nI f), .int (nI n)]) (kX4_keepString hE l D cA h0 hc ha hs used top end_ full k fc sr sl fr f n hnt.2.1 hf hsl) 3 gX6_sym_X4_keepString rfl (by decide +kernel) [1, 2, 4] [0, 3] [(n0, .inr (6, [.ref h0, .ref tb, .ref pa, .ref nm, .ref ch, .ref sb, .int nodes, .ref wd, .ref bu, .ref ki, .ref ar, .ref le, .int fi, .int fd, .int fs, .int fb])), (tb, .inl (cA 1, 16384, .inl ft))] rfl rfl (by decide) rfl (by decide) (by decide) ⟨Nat.le_of_ble_eq_true rfl, Nat.le_of_ble_eq_true rfl⟩ 0 rfl rfl rfl rfl rfl (Nat.le_of_ble_eq_true rfl) dX6_sym_84 (Nat.le_of_ble_eq_true rfl) (Nat.le_of_ble_eq_true rfl) (fun r5 u7 hw6 => ?_)
        obtain ⟨k23, f24⟩ := u7
        refine zz_show (ws' := [(n0, .inr (6, [.ref h0, .ref tb, .ref pa, .ref nm, .ref ch, .ref sb, .int nodes, .ref wd, .ref bu, .ref ki, .ref ar, .ref le, .int fi, .int fd, .int fs, .int fb])), (tb, .inl (cA 1, 16384, .inl ft)), (h0, .inr (4, [.ref hc, .ref ha, .ref hs, .int used, .int (nI k23), .int top, .int end_, .int full])), (hc, .inl (cA 1, 886000, .inl f24)), (sr, .inl (cA 1, sl, .inl fr))]) rfl ?_
        refine zz_iast X 1 1 rfl rfl (vp_in_nI (by omega) (by decide)) s0 (nI_clamp (by omega)) dX6_sym_87 [(n0, .inr (6, [.ref h0, .ref tb, .ref pa, .ref nm, .ref ch, .ref sb, .int nodes, .ref wd, .ref bu, .ref ki, .ref ar, .ref le, .int fi, .int fd, .int fs, .int fb])), (tb, .inl (cA 1, 16384, .inl (upd ft s0 r5))), (h0, .inr (4, [.ref hc, .ref ha, .ref hs, .int used, .int (nI k23), .int top, .int end_, .int full])), (hc, .inl (cA 1, 886000, .inl f24)), (sr, .inl (cA 1, sl, .inl fr))] rfl ?_
        refine zz_aload_n X 4 dX6_sym_88 rfl rfl ?_
        refine zz_get X 0 1 rfl rfl (by decide) inX6_sym_X6 rfl (List.mem_of_getElem? (i := 1) rfl) rfl dX6_sym_89 ?_
        refine zz_iload X 2 dX6_sym_92 rfl ?_
        refine zz_iald X 1 1 rfl rfl (vp_in_nI (by omega) (by decide)) (r5) ((zn_ix (by omega)).trans pk_us) dX6_sym_94 ?_
        exact zz_iret X hr ((upd ft s0 r5, k23, f24)) [0, 2, 3, 1, 4] (by decide) rfl rfl (Nat.le_of_ble_eq_true rfl) (Nat.le_of_ble_eq_true rfl) (⟨(zNT_kept hnt hw6).1, (zNT_kept (s0 := s0) hnt hw6).2.1, Or.inr (zNT_kept (s0 := s0) hnt hw6).2.2.1, (zNT_kept (s0 := s0) hnt hw6).2.2.2⟩) dX6_sym_95
  · skip
    have hjn : j < n := zn_lt c9 (by omega)
    refine zz_iload X 1 dX6_sym_12 rfl ?_
    refine zz_bipush X 31 dX6_sym_14 rfl ?_
    refine zz_imul X ((hx * 31)) dX6_sym_16 rfl ?_
    refine zz_aload_n X 3 dX6_sym_17 rfl rfl ?_
    refine zz_iload_n X 4 dX6_sym_18 rfl rfl ?_
    refine zz_iload X 0 dX6_sym_19 rfl ?_
    refine zz_iadd X ((nI (f + j))) dX6_sym_21 (nI_add _ _) ?_
    refine zz_iald X 4 1 rfl rfl (vp_in_nI (by omega) (by omega)) ((fr (f + j))) (zn_ix (by omega)) dX6_sym_22 ?_
    refine zz_iadd X (((hx * 31) + (fr (f + j)))) dX6_sym_23 rfl ?_
    refine zz_istore X [(4, .int ((hx * 31) + (fr (f + j)))), (5, .int (nI j)), (0, .ref n0), (1, .ref sr), (2, .int (nI f)), (3, .int (nI n))] dX6_sym_24 (by decide) rfl ?_
    refine zz_iinc X 1 ((nI (j + 1))) [(5, .int (nI (j + 1))), (4, .int ((hx * 31) + (fr (f + j)))), (0, .ref n0), (1, .ref sr), (2, .int (nI f)), (3, .int (nI n))] dX6_sym_26 rfl (nI_1 j) (by decide) rfl ?_
    refine zz_goto X 6 dX6_sym_29 (by decide) ?_
    exact ih_6 (j + 1, ((hx * 31) + (fr (f + j)))) (by omega) (by omega)
