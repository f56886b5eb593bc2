/-! the class: asks -/
set_option maxRecDepth 20000 in
theorem s_X1_leave {G : nk_EG} {H : nk_AH} {q a t : Nat} {f : Nat → Int32} (hQ : cQ H q a f t) (ht : t ≤ 16) {x : Int32} : nk_Sv G mX1_leave 1 [.ref q, .int x] H (tk H q a f t [x]) := by
  refine nk_S.of (by decide +kernel) (Nat.le_of_ble_eq_true rfl) rfl ?_
  refine nk_aload_n (i := 0) dX1_leave_0 rfl rfl ?_
  refine nk_getf fX1_15 dX1_leave_1 hQ.1 rfl ?_
  refine nk_bipush (v := 16) dX1_leave_4 (by decide) ?_
  refine nk_icmpge (tgt := 29) dX1_leave_6 (by decide) (fun h6 => ?_) (fun h6 => ?_)
  · skip
    refine nk_vreturn dX1_leave_29 rfl ?_
    first
    | exact ⟨rfl, by unfold tk; rw [tr_a, tr_a, tr_t, tr_t, if_pos h16, if_pos h16]; rfl⟩
    | (have e : ¬ t < 16 := by have := nk_leI (a := 16) h6 (by omega) (by omega); omega
       exact ⟨rfl, by unfold tk; rw [tr_a, tr_a, tr_t, tr_t, if_neg e, if_neg e, nk_u_at hQ.2, nk_u_at hQ.1]⟩)
  · skip
    have h16 := nk_nleI (a := 16) h6 (by omega) (by omega)
    refine nk_aload_n (i := 0) dX1_leave_9 rfl rfl ?_
    refine nk_getf fX1_9 dX1_leave_10 hQ.1 rfl ?_
    refine nk_aload_n (i := 0) dX1_leave_13 rfl rfl ?_
    refine nk_getf fX1_15 dX1_leave_14 hQ.1 rfl ?_
    refine nk_iload_n (i := 1) dX1_leave_17 rfl rfl ?_
    refine nk_iastN (j := t) dX1_leave_18 hQ.2 (rfl) (by omega) (by decide) ?_
    refine nk_aload_n (i := 0) dX1_leave_19 rfl rfl ?_
    refine nk_dup dX1_leave_20 rfl ?_
    refine nk_getf fX1_15 dX1_leave_21 ((nk_u_ne hQ.ne).trans hQ.1) rfl ?_
    refine nk_iconst (v := 1) dX1_leave_24 (by decide) ?_
    refine nk_iadd dX1_leave_25 ?_
    refine nk_top (y := nI (t + 1)) (nI_1 t) ?_
    refine nk_putf pX1_15 dX1_leave_26 ((nk_u_ne hQ.ne).trans hQ.1) rfl rfl (Nat.le_of_ble_eq_true rfl) rfl ?_
    refine nk_vreturn dX1_leave_29 rfl ?_
    first
    | exact ⟨rfl, by unfold tk; rw [tr_a, tr_a, tr_t, tr_t, if_pos h16, if_pos h16]; rfl⟩
    | (have e : ¬ t < 16 := by have := nk_leI (a := 16) h6 (by omega) (by omega); omega
       exact ⟨rfl, by unfold tk; rw [tr_a, tr_a, tr_t, tr_t, if_neg e, if_neg e, nk_u_at hQ.2, nk_u_at hQ.1]⟩)
set_option maxRecDepth 20000 in
theorem s_X1_leftAt {G : nk_EG} {H : nk_AH} {q a t : Nat} {f : Nat → Int32} (hQ : cQ H q a f t) (ht : t ≤ 16) {i : Int32} : nk_Si G mX1_leftAt 2 [.ref q, .int i] H (sp_trace f t i) H := by
  refine nk_S.of (by decide +kernel) (Nat.le_of_ble_eq_true rfl) rfl ?_
  have hm1 := nk_m1 (n := t) (by omega)
  refine nk_iload_n (i := 1) dX1_leftAt_0 rfl rfl ?_
  refine nk_iconst (v := 0) dX1_leftAt_1 (by decide) ?_
  refine nk_aload_n (i := 0) dX1_leftAt_2 rfl rfl ?_
  refine nk_getf fX1_15 dX1_leftAt_3 hQ.1 rfl ?_
  refine nk_iconst (v := 1) dX1_leftAt_6 (by decide) ?_
  refine nk_isub dX1_leftAt_7 ?_
  refine nk_cNi kX1_23 (s_X7_within) dX1_leftAt_8 rfl rfl (by decide) (Nat.le_of_ble_eq_true rfl) ?_
  refine nk_ifeq (tgt := 23) dX1_leftAt_11 (by decide) (fun h11 => ?_) (fun h11 => ?_)
  · skip
    simp only [nk_b0, Classical.not_not, hm1, show (0 : Int32).toInt = 0 from rfl] at h11
    refine nk_ldc qX1_27 dX1_leftAt_23 ?_
    refine nk_ireturn dX1_leftAt_25 rfl ?_
    first
    | exact ⟨by unfold sp_trace; rw [if_neg (fun z => h11 (by omega))], rfl⟩
    | exact ⟨by unfold sp_trace; rw [if_pos (by omega)], rfl⟩
  · skip
    simp only [nk_b0, Classical.not_not, hm1, show (0 : Int32).toInt = 0 from rfl] at h11
    have hs : sp_n i < t := by unfold sp_n Int32.toNatClampNeg; omega
    have ex : i = nI (sp_n i) := nI_ofI h11.1
    refine nk_aload_n (i := 0) dX1_leftAt_14 rfl rfl ?_
    refine nk_getf fX1_9 dX1_leftAt_15 hQ.1 rfl ?_
    refine nk_iload_n (i := 1) dX1_leftAt_18 rfl rfl ?_
    refine nk_ialdN (j := sp_n i) dX1_leftAt_19 hQ.2 (ex) (by omega) (by omega) ?_
    refine nk_goto (tgt := 25) dX1_leftAt_20 (by decide) ?_
    refine nk_ireturn dX1_leftAt_25 rfl ?_
    first
    | exact ⟨by unfold sp_trace; rw [if_neg (fun z => h11 (by omega))], rfl⟩
    | exact ⟨by unfold sp_trace; rw [if_pos (by omega)], rfl⟩
set_option maxRecDepth 20000 in
theorem s_b10 {G : nk_EG} {H : nk_AH} {q a t : Nat} {f : Nat → Int32} (hQ : cQ H q a f t) (ht : t ≤ 16) {q1 w1 j b : Nat} {κ : Int32} {F : Nat → Int32} (hX : cX H q1 w1 j κ b F) (hn : w1 ≠ a) (hb2 : 2 ≤ b) (hb10 : b ≤ 10) (hz : gz F b) {dp d : Nat} (hdp : dp ≤ 12) (hd : 5 ≤ d) : nk_Si G mX1_body d [.ref q, .ref q1, .int 10, .int (nI dp)] H (nI (fb_ct (gm F) 1024)) (tk H q a f t [10]) := by
  refine nk_S.of (by decide +kernel) (Nat.le_of_ble_eq_true rfl) rfl ?_
  have hle : nI dp ≤ 12 := (nI_leI (b := 12) (by omega) (by omega)).mpr (by omega)
  refine nk_iload_n (i := 3) dX1_body_0 rfl rfl ?_
  refine nk_bipush (v := 12) dX1_body_1 (by decide) ?_
  refine nk_icmple (tgt := 8) dX1_body_3 (by decide) (fun _ => ?_) (fun h3 => by first | exact absurd (hle) h3 | exact absurd h3 (hle))
  refine nk_aload_n (i := 0) dX1_body_8 rfl rfl ?_
  refine nk_iload_n (i := 2) dX1_body_9 rfl rfl ?_
  refine nk_cVv kX1_42 (s_X1_leave hQ ht) dX1_body_10 hQ.1 rfl rfl (by omega) (Nat.le_of_ble_eq_true rfl) ?_
  refine nk_iload_n (i := 3) dX1_body_13 rfl rfl ?_
  refine nk_iconst (v := 1) dX1_body_14 (by decide) ?_
  refine nk_iadd dX1_body_15 ?_
  refine nk_top (y := nI (dp + 1)) (nI_1 dp) ?_
  refine nk_istoreT dX1_body_16 (by decide) ?_
  refine nk_iload_n (i := 2) dX1_body_18 rfl rfl ?_
  refine nk_tableIn (tgt := 92) (off := 73) dX1_body_19 (by decide) (by decide) (by decide) (by decide) ?_
  refine nk_aload_n (i := 1) dX1_body_92 rfl rfl ?_
  refine nk_cVi kX1_46 ((hX.k hQ hn).i (fun H' hk => s_X2_size hk hb2 hb10 hz)) dX1_body_93 (hX.k hQ hn).o rfl rfl (by omega) (Nat.le_of_ble_eq_true rfl) ?_
  refine nk_ireturn dX1_body_96 rfl ?_
  exact ⟨rfl, rfl⟩
set_option maxRecDepth 20000 in
theorem s_b20 {G : nk_EG} {H : nk_AH} {q a t : Nat} {f : Nat → Int32} (hQ : cQ H q a f t) (ht : t ≤ 16) {q1 w1 j b : Nat} {κ : Int32} {F : Nat → Int32} (hX : cX H q1 w1 j κ b F) (hn : w1 ≠ a) (hb2 : 2 ≤ b) (hb10 : b ≤ 10) (hz : gz F b) {dp d : Nat} (hdp : dp ≤ 12) (hd : 2 ≤ d) : nk_Si G mX1_body d [.ref q, .ref q1, .int 20, .int (nI dp)] H (nI j) (tk H q a f t [20]) := by
  refine nk_S.of (by decide +kernel) (Nat.le_of_ble_eq_true rfl) rfl ?_
  have hle : nI dp ≤ 12 := (nI_leI (b := 12) (by omega) (by omega)).mpr (by omega)
  refine nk_iload_n (i := 3) dX1_body_0 rfl rfl ?_
  refine nk_bipush (v := 12) dX1_body_1 (by decide) ?_
  refine nk_icmple (tgt := 8) dX1_body_3 (by decide) (fun _ => ?_) (fun h3 => by first | exact absurd (hle) h3 | exact absurd h3 (hle))
  refine nk_aload_n (i := 0) dX1_body_8 rfl rfl ?_
  refine nk_iload_n (i := 2) dX1_body_9 rfl rfl ?_
  refine nk_cVv kX1_42 (s_X1_leave hQ ht) dX1_body_10 hQ.1 rfl rfl (by omega) (Nat.le_of_ble_eq_true rfl) ?_
  refine nk_iload_n (i := 3) dX1_body_13 rfl rfl ?_
  refine nk_iconst (v := 1) dX1_body_14 (by decide) ?_
  refine nk_iadd dX1_body_15 ?_
  refine nk_top (y := nI (dp + 1)) (nI_1 dp) ?_
  refine nk_istoreT dX1_body_16 (by decide) ?_
  refine nk_iload_n (i := 2) dX1_body_18 rfl rfl ?_
  refine nk_tableIn (tgt := 152) (off := 133) dX1_body_19 (by decide) (by decide) (by decide) (by decide) ?_
  refine nk_aload_n (i := 1) dX1_body_152 rfl rfl ?_
  refine nk_getf fX1_50 dX1_body_153 (hX.k hQ hn).o rfl ?_
  refine nk_ireturn dX1_body_156 rfl ?_
  exact ⟨rfl, rfl⟩
set_option maxRecDepth 20000 in
theorem s_b13 {G : nk_EG} {H : nk_AH} {q a t : Nat} {f : Nat → Int32} (hQ : cQ H q a f t) (ht : t ≤ 16) {q1 w1 j b : Nat} {κ : Int32} {F : Nat → Int32} (hX : cX H q1 w1 j κ b F) (hn : w1 ≠ a) (hb2 : 2 ≤ b) (hb10 : b ≤ 10) (hz : gz F b) {dp d : Nat} (hdp : dp ≤ 11) (hd : 6 ≤ d) : nk_Si G mX1_body d [.ref q, .ref q1, .int 13, .int (nI dp)] H (nI (fb_ct (gm F) 1024) - 100) (tk H q a f t [13, 10]) := by
  refine nk_S.of (by decide +kernel) (Nat.le_of_ble_eq_true rfl) rfl ?_
  have hle : nI dp ≤ 12 := (nI_leI (b := 12) (by omega) (by omega)).mpr (by omega)
  refine nk_iload_n (i := 3) dX1_body_0 rfl rfl ?_
  refine nk_bipush (v := 12) dX1_body_1 (by decide) ?_
  refine nk_icmple (tgt := 8) dX1_body_3 (by decide) (fun _ => ?_) (fun h3 => by first | exact absurd (hle) h3 | exact absurd h3 (hle))
  refine nk_aload_n (i := 0) dX1_body_8 rfl rfl ?_
  refine nk_iload_n (i := 2) dX1_body_9 rfl rfl ?_
  refine nk_cVv kX1_42 (s_X1_leave hQ ht) dX1_body_10 hQ.1 rfl rfl (by omega) (Nat.le_of_ble_eq_true rfl) ?_
  refine nk_iload_n (i := 3) dX1_body_13 rfl rfl ?_
  refine nk_iconst (v := 1) dX1_body_14 (by decide) ?_
  refine nk_iadd dX1_body_15 ?_
  refine nk_top (y := nI (dp + 1)) (nI_1 dp) ?_
  refine nk_istoreT dX1_body_16 (by decide) ?_
  refine nk_iload_n (i := 2) dX1_body_18 rfl rfl ?_
  refine nk_tableIn (tgt := 127) (off := 108) dX1_body_19 (by decide) (by decide) (by decide) (by decide) ?_
  refine nk_aload_n (i := 0) dX1_body_127 rfl rfl ?_
  refine nk_aload_n (i := 1) dX1_body_128 rfl rfl ?_
  refine nk_bipush (v := 10) dX1_body_129 (by decide) ?_
  refine nk_iload dX1_body_131 rfl ?_
  refine nk_cVi kX1_39 (s_b10 (hQ.k (xs := [13])) (tr_t_le _ _ ht) (hX.k hQ hn) hn hb2 hb10 hz (dp := dp + 1) (d := 5) (by omega) (by omega)) dX1_body_133 (hQ.k).1 rfl rfl (by omega) (Nat.le_of_ble_eq_true rfl) ?_
  refine nk_bipush (v := 100) dX1_body_136 (by decide) ?_
  refine nk_isub dX1_body_138 ?_
  refine nk_ireturn dX1_body_139 rfl ?_
  exact ⟨rfl, tk_tk hQ⟩
set_option maxRecDepth 20000 in
theorem s_b14 {G : nk_EG} {H : nk_AH} {q a t : Nat} {f : Nat → Int32} (hQ : cQ H q a f t) (ht : t ≤ 16) {q1 w1 j b : Nat} {κ : Int32} {F : Nat → Int32} (hX : cX H q1 w1 j κ b F) (hn : w1 ≠ a) (hb2 : 2 ≤ b) (hb10 : b ≤ 10) (hz : gz F b) {dp d : Nat} (hdp : dp ≤ 10) (hd : 7 ≤ d) : nk_Si G mX1_body d [.ref q, .ref q1, .int 14, .int (nI dp)] H (2 * (nI (fb_ct (gm F) 1024) - 100)) (tk H q a f t [14, 13, 10]) := by
  refine nk_S.of (by decide +kernel) (Nat.le_of_ble_eq_true rfl) rfl ?_
  have hle : nI dp ≤ 12 := (nI_leI (b := 12) (by omega) (by omega)).mpr (by omega)
  refine nk_iload_n (i := 3) dX1_body_0 rfl rfl ?_
  refine nk_bipush (v := 12) dX1_body_1 (by decide) ?_
  refine nk_icmple (tgt := 8) dX1_body_3 (by decide) (fun _ => ?_) (fun h3 => by first | exact absurd (hle) h3 | exact absurd h3 (hle))
  refine nk_aload_n (i := 0) dX1_body_8 rfl rfl ?_
  refine nk_iload_n (i := 2) dX1_body_9 rfl rfl ?_
  refine nk_cVv kX1_42 (s_X1_leave hQ ht) dX1_body_10 hQ.1 rfl rfl (by omega) (Nat.le_of_ble_eq_true rfl) ?_
  refine nk_iload_n (i := 3) dX1_body_13 rfl rfl ?_
  refine nk_iconst (v := 1) dX1_body_14 (by decide) ?_
  refine nk_iadd dX1_body_15 ?_
  refine nk_top (y := nI (dp + 1)) (nI_1 dp) ?_
  refine nk_istoreT dX1_body_16 (by decide) ?_
  refine nk_iload_n (i := 2) dX1_body_18 rfl rfl ?_
  refine nk_tableIn (tgt := 140) (off := 121) dX1_body_19 (by decide) (by decide) (by decide) (by decide) ?_
  refine nk_iconst (v := 2) dX1_body_140 (by decide) ?_
  refine nk_aload_n (i := 0) dX1_body_141 rfl rfl ?_
  refine nk_aload_n (i := 1) dX1_body_142 rfl rfl ?_
  refine nk_bipush (v := 13) dX1_body_143 (by decide) ?_
  refine nk_iload dX1_body_145 rfl ?_
  refine nk_cVi kX1_39 (s_b13 (hQ.k (xs := [14])) (tr_t_le _ _ ht) (hX.k hQ hn) hn hb2 hb10 hz (dp := dp + 1) (d := 6) (by omega) (by omega)) dX1_body_147 (hQ.k).1 rfl rfl (by omega) (Nat.le_of_ble_eq_true rfl) ?_
  refine nk_imul dX1_body_150 ?_
  refine nk_ireturn dX1_body_151 rfl ?_
  exact ⟨rfl, tk_tk hQ⟩
set_option maxRecDepth 20000 in
theorem s_b21 {G : nk_EG} {H : nk_AH} {q a t : Nat} {f : Nat → Int32} (hQ : cQ H q a f t) (ht : t ≤ 16) {q1 w1 j b : Nat} {κ : Int32} {F : Nat → Int32} (hX : cX H q1 w1 j κ b F) (hn : w1 ≠ a) (hb2 : 2 ≤ b) (hb10 : b ≤ 10) (hz : gz F b) {dp d : Nat} (hdp : dp ≤ 11) (hd : 5 ≤ d) : nk_Si G mX1_body d [.ref q, .ref q1, .int 21, .int (nI dp)] H (av_pm (gm F) (nk_tp b) j) (tk H q a f t [21, 20]) := by
  refine nk_S.of (by decide +kernel) (Nat.le_of_ble_eq_true rfl) rfl ?_
  have hle : nI dp ≤ 12 := (nI_leI (b := 12) (by omega) (by omega)).mpr (by omega)
  refine nk_iload_n (i := 3) dX1_body_0 rfl rfl ?_
  refine nk_bipush (v := 12) dX1_body_1 (by decide) ?_
  refine nk_icmple (tgt := 8) dX1_body_3 (by decide) (fun _ => ?_) (fun h3 => by first | exact absurd (hle) h3 | exact absurd h3 (hle))
  refine nk_aload_n (i := 0) dX1_body_8 rfl rfl ?_
  refine nk_iload_n (i := 2) dX1_body_9 rfl rfl ?_
  refine nk_cVv kX1_42 (s_X1_leave hQ ht) dX1_body_10 hQ.1 rfl rfl (by omega) (Nat.le_of_ble_eq_true rfl) ?_
  refine nk_iload_n (i := 3) dX1_body_13 rfl rfl ?_
  refine nk_iconst (v := 1) dX1_body_14 (by decide) ?_
  refine nk_iadd dX1_body_15 ?_
  refine nk_top (y := nI (dp + 1)) (nI_1 dp) ?_
  refine nk_istoreT dX1_body_16 (by decide) ?_
  refine nk_iload_n (i := 2) dX1_body_18 rfl rfl ?_
  refine nk_tableIn (tgt := 157) (off := 138) dX1_body_19 (by decide) (by decide) (by decide) (by decide) ?_
  refine nk_aload_n (i := 0) dX1_body_157 rfl rfl ?_
  refine nk_aload_n (i := 1) dX1_body_158 rfl rfl ?_
  refine nk_bipush (v := 20) dX1_body_159 (by decide) ?_
  refine nk_iload dX1_body_161 rfl ?_
  refine nk_cVi kX1_39 (s_b20 (hQ.k (xs := [21])) (tr_t_le _ _ ht) (hX.k hQ hn) hn hb2 hb10 hz (dp := dp + 1) (d := 2) (by omega) (by omega)) dX1_body_163 (hQ.k).1 rfl rfl (by omega) (Nat.le_of_ble_eq_true rfl) ?_
  have hX2 := (hX.k hQ hn (xs := [21])).k hQ.k hn (xs := [20])
  refine nk_aload_n (i := 1) dX1_body_166 rfl rfl ?_
  refine nk_cVi kX1_53 ((hX2).i (fun H' hk => s_X2_least hk hb2 hb10 hz)) dX1_body_167 hX2.o rfl rfl (by omega) (Nat.le_of_ble_eq_true rfl) ?_
  refine nk_iconst (v := 0) dX1_body_170 (by decide) ?_
  refine nk_cSi kX1_56 (s_J9_max_7cf53) dX1_body_171 rfl rfl (by omega) (Nat.le_of_ble_eq_true rfl) ?_
  refine nk_iadd dX1_body_174 ?_
  refine nk_ireturn dX1_body_175 rfl ?_
  exact ⟨by rw [av_mx hb2 hb10 hz]; rfl, tk_tk hQ⟩
set_option maxRecDepth 20000 in
theorem s_b22 {G : nk_EG} {H : nk_AH} {q a t : Nat} {f : Nat → Int32} (hQ : cQ H q a f t) (ht : t ≤ 16) {q1 w1 j b : Nat} {κ : Int32} {F : Nat → Int32} (hX : cX H q1 w1 j κ b F) (hn : w1 ≠ a) (hb2 : 2 ≤ b) (hb10 : b ≤ 10) (hz : gz F b) {dp d : Nat} (hdp : dp ≤ 10) (hd : 6 ≤ d) : nk_Si G mX1_body d [.ref q, .ref q1, .int 22, .int (nI dp)] H (av_pm (gm F) (nk_tp b) j - 1000) (tk H q a f t [22, 21, 20]) := by
  refine nk_S.of (by decide +kernel) (Nat.le_of_ble_eq_true rfl) rfl ?_
  have hle : nI dp ≤ 12 := (nI_leI (b := 12) (by omega) (by omega)).mpr (by omega)
  refine nk_iload_n (i := 3) dX1_body_0 rfl rfl ?_
  refine nk_bipush (v := 12) dX1_body_1 (by decide) ?_
  refine nk_icmple (tgt := 8) dX1_body_3 (by decide) (fun _ => ?_) (fun h3 => by first | exact absurd (hle) h3 | exact absurd h3 (hle))
  refine nk_aload_n (i := 0) dX1_body_8 rfl rfl ?_
  refine nk_iload_n (i := 2) dX1_body_9 rfl rfl ?_
  refine nk_cVv kX1_42 (s_X1_leave hQ ht) dX1_body_10 hQ.1 rfl rfl (by omega) (Nat.le_of_ble_eq_true rfl) ?_
  refine nk_iload_n (i := 3) dX1_body_13 rfl rfl ?_
  refine nk_iconst (v := 1) dX1_body_14 (by decide) ?_
  refine nk_iadd dX1_body_15 ?_
  refine nk_top (y := nI (dp + 1)) (nI_1 dp) ?_
  refine nk_istoreT dX1_body_16 (by decide) ?_
  refine nk_iload_n (i := 2) dX1_body_18 rfl rfl ?_
  refine nk_tableIn (tgt := 176) (off := 157) dX1_body_19 (by decide) (by decide) (by decide) (by decide) ?_
  refine nk_aload_n (i := 0) dX1_body_176 rfl rfl ?_
  refine nk_aload_n (i := 1) dX1_body_177 rfl rfl ?_
  refine nk_bipush (v := 21) dX1_body_178 (by decide) ?_
  refine nk_iload dX1_body_180 rfl ?_
  refine nk_cVi kX1_39 (s_b21 (hQ.k (xs := [22])) (tr_t_le _ _ ht) (hX.k hQ hn) hn hb2 hb10 hz (dp := dp + 1) (d := 5) (by omega) (by omega)) dX1_body_182 (hQ.k).1 rfl rfl (by omega) (Nat.le_of_ble_eq_true rfl) ?_
  refine nk_sipush (v := 1000) dX1_body_185 (by decide) ?_
  refine nk_isub dX1_body_188 ?_
  refine nk_ireturn dX1_body_189 rfl ?_
  exact ⟨rfl, tk_tk hQ⟩
set_option maxRecDepth 20000 in
theorem s_b24 {G : nk_EG} {H : nk_AH} {q a t : Nat} {f : Nat → Int32} (hQ : cQ H q a f t) (ht : t ≤ 16) {q1 w1 j b : Nat} {κ : Int32} {F : Nat → Int32} (hX : cX H q1 w1 j κ b F) (hn : w1 ≠ a) (hb2 : 2 ≤ b) (hb10 : b ≤ 10) (hz : gz F b) {dp d : Nat} (hdp : dp ≤ 10) (hd : 6 ≤ d) : nk_Si G mX1_body d [.ref q, .ref q1, .int 24, .int (nI dp)] H (2 * av_pm (gm F) (nk_tp b) j) (tk H q a f t [24, 21, 20]) := by
  refine nk_S.of (by decide +kernel) (Nat.le_of_ble_eq_true rfl) rfl ?_
  have hle : nI dp ≤ 12 := (nI_leI (b := 12) (by omega) (by omega)).mpr (by omega)
  refine nk_iload_n (i := 3) dX1_body_0 rfl rfl ?_
  refine nk_bipush (v := 12) dX1_body_1 (by decide) ?_
  refine nk_icmple (tgt := 8) dX1_body_3 (by decide) (fun _ => ?_) (fun h3 => by first | exact absurd (hle) h3 | exact absurd h3 (hle))
  refine nk_aload_n (i := 0) dX1_body_8 rfl rfl ?_
  refine nk_iload_n (i := 2) dX1_body_9 rfl rfl ?_
  refine nk_cVv kX1_42 (s_X1_leave hQ ht) dX1_body_10 hQ.1 rfl rfl (by omega) (Nat.le_of_ble_eq_true rfl) ?_
  refine nk_iload_n (i := 3) dX1_body_13 rfl rfl ?_
  refine nk_iconst (v := 1) dX1_body_14 (by decide) ?_
  refine nk_iadd dX1_body_15 ?_
  refine nk_top (y := nI (dp + 1)) (nI_1 dp) ?_
  refine nk_istoreT dX1_body_16 (by decide) ?_
  refine nk_iload_n (i := 2) dX1_body_18 rfl rfl ?_
  refine nk_tableIn (tgt := 209) (off := 190) dX1_body_19 (by decide) (by decide) (by decide) (by decide) ?_
  refine nk_iconst (v := 2) dX1_body_209 (by decide) ?_
  refine nk_aload_n (i := 0) dX1_body_210 rfl rfl ?_
  refine nk_aload_n (i := 1) dX1_body_211 rfl rfl ?_
  refine nk_bipush (v := 21) dX1_body_212 (by decide) ?_
  refine nk_iload dX1_body_214 rfl ?_
  refine nk_cVi kX1_39 (s_b21 (hQ.k (xs := [24])) (tr_t_le _ _ ht) (hX.k hQ hn) hn hb2 hb10 hz (dp := dp + 1) (d := 5) (by omega) (by omega)) dX1_body_216 (hQ.k).1 rfl rfl (by omega) (Nat.le_of_ble_eq_true rfl) ?_
  refine nk_imul dX1_body_219 ?_
  refine nk_ireturn dX1_body_220 rfl ?_
  exact ⟨rfl, tk_tk hQ⟩
set_option maxRecDepth 20000 in
theorem s_X1_answer0 {G : nk_EG} (hG : nk_GS G) {H : nk_AH} {q a t : Nat} {f : Nat → Int32} (hQ : cQ H q a f t) (ht : t ≤ 16) {q1 w1 j b : Nat} {κ : Int32} {F : Nat → Int32} (hX : cX H q1 w1 j κ b F) (hn : w1 ≠ a) (hb2 : 2 ≤ b) (hb10 : b ≤ 10) (hz : gz F b) {kk dp D : Nat} {v : Int32} {H' : nk_AH} (hκ : κ = nI kk) (hkk : kk ≤ 5) (hB : nk_Si G mX1_body D [.ref q, .ref q1, .int (sZf [10, 11, 12, 11, 13, 14] kk), .int (nI (dp + 1))] H v H') (hD : 1 ≤ D) : nk_Si G mX1_answer (D + 1) [.ref q, .ref q1, .int 0, .int (nI dp)] H v H' := by
  refine nk_S.of (by decide +kernel) (Nat.le_of_ble_eq_true rfl) rfl ?_
  have hk1 : κ.toInt = (kk : Int) := by rw [hκ]; exact nI_toInt (by omega)
  have hw : ¬ (if (0 : Int32).toInt ≤ κ.toInt ∧ κ.toInt ≤ (5 : Int32).toInt then (1 : Int32) else 0) = 0 := by
    rw [nk_b0, Classical.not_not, hk1]
    exact ⟨Int.natCast_nonneg _, by show (kk : Int) ≤ 5; omega⟩
  refine nk_aload_n (i := 1) dX1_answer_0 rfl rfl ?_
  refine nk_getf fX1_28 dX1_answer_1 hX.o rfl ?_
  refine nk_iconst (v := 0) dX1_answer_4 (by decide) ?_
  refine nk_iconst (v := 5) dX1_answer_5 (by decide) ?_
  refine nk_cNi kX1_23 (s_X7_within) dX1_answer_6 rfl rfl (by omega) (Nat.le_of_ble_eq_true rfl) ?_
  refine nk_ifne (tgt := 14) dX1_answer_9 (by decide) (fun _ => ?_) (fun h9 => by first | exact absurd (hw) h9 | exact absurd h9 (hw))
  refine nk_aload_n (i := 0) dX1_answer_14 rfl rfl ?_
  refine nk_aload_n (i := 1) dX1_answer_15 rfl rfl ?_
  refine nk_iload_n (i := 2) dX1_answer_16 rfl rfl ?_
  refine nk_ifne (tgt := 31) dX1_answer_17 (by decide) (fun h17 => by first | exact absurd h17 (by decide) | exact absurd (by decide) h17) (fun _ => ?_)
  refine nk_gets 1 rfl zX1_33 dX1_answer_20 ?_
  refine nk_aload_n (i := 1) dX1_answer_23 rfl rfl ?_
  refine nk_getf fX1_28 dX1_answer_24 hX.o rfl ?_
  refine nk_tldN (j := kk) dX1_answer_27 hG.2.1 (hκ) (by omega) (by decide) ?_
  refine nk_goto (tgt := 39) dX1_answer_28 (by decide) ?_
  refine nk_iload_n (i := 3) dX1_answer_39 rfl rfl ?_
  refine nk_iconst (v := 1) dX1_answer_40 (by decide) ?_
  refine nk_iadd dX1_answer_41 ?_
  refine nk_top (y := nI (dp + 1)) (nI_1 dp) ?_
  refine nk_cVi kX1_39 (hB) dX1_answer_42 hQ.1 rfl rfl (by omega) (Nat.le_of_ble_eq_true rfl) ?_
  refine nk_ireturn dX1_answer_45 rfl ?_
  exact ⟨rfl, rfl⟩
set_option maxRecDepth 20000 in
theorem s_X1_answer1 {G : nk_EG} (hG : nk_GS G) {H : nk_AH} {q a t : Nat} {f : Nat → Int32} (hQ : cQ H q a f t) (ht : t ≤ 16) {q1 w1 j b : Nat} {κ : Int32} {F : Nat → Int32} (hX : cX H q1 w1 j κ b F) (hn : w1 ≠ a) (hb2 : 2 ≤ b) (hb10 : b ≤ 10) (hz : gz F b) {kk dp D : Nat} {v : Int32} {H' : nk_AH} (hκ : κ = nI kk) (hkk : kk ≤ 5) (hB : nk_Si G mX1_body D [.ref q, .ref q1, .int (sZf [20, 21, 24, 22, 23, 23] kk), .int (nI (dp + 1))] H v H') (hD : 1 ≤ D) : nk_Si G mX1_answer (D + 1) [.ref q, .ref q1, .int 1, .int (nI dp)] H v H' := by
  refine nk_S.of (by decide +kernel) (Nat.le_of_ble_eq_true rfl) rfl ?_
  have hk1 : κ.toInt = (kk : Int) := by rw [hκ]; exact nI_toInt (by omega)
  have hw : ¬ (if (0 : Int32).toInt ≤ κ.toInt ∧ κ.toInt ≤ (5 : Int32).toInt then (1 : Int32) else 0) = 0 := by
    rw [nk_b0, Classical.not_not, hk1]
    exact ⟨Int.natCast_nonneg _, by show (kk : Int) ≤ 5; omega⟩
  refine nk_aload_n (i := 1) dX1_answer_0 rfl rfl ?_
  refine nk_getf fX1_28 dX1_answer_1 hX.o rfl ?_
  refine nk_iconst (v := 0) dX1_answer_4 (by decide) ?_
  refine nk_iconst (v := 5) dX1_answer_5 (by decide) ?_
  refine nk_cNi kX1_23 (s_X7_within) dX1_answer_6 rfl rfl (by omega) (Nat.le_of_ble_eq_true rfl) ?_
  refine nk_ifne (tgt := 14) dX1_answer_9 (by decide) (fun _ => ?_) (fun h9 => by first | exact absurd (hw) h9 | exact absurd h9 (hw))
  refine nk_aload_n (i := 0) dX1_answer_14 rfl rfl ?_
  refine nk_aload_n (i := 1) dX1_answer_15 rfl rfl ?_
  refine nk_iload_n (i := 2) dX1_answer_16 rfl rfl ?_
  refine nk_ifne (tgt := 31) dX1_answer_17 (by decide) (fun _ => ?_) (fun h17 => by first | exact absurd (by decide) h17 | exact absurd h17 (by decide))
  refine nk_gets 2 rfl zX1_36 dX1_answer_31 ?_
  refine nk_aload_n (i := 1) dX1_answer_34 rfl rfl ?_
  refine nk_getf fX1_28 dX1_answer_35 hX.o rfl ?_
  refine nk_tldN (j := kk) dX1_answer_38 hG.2.2 (hκ) (by omega) (by decide) ?_
  refine nk_iload_n (i := 3) dX1_answer_39 rfl rfl ?_
  refine nk_iconst (v := 1) dX1_answer_40 (by decide) ?_
  refine nk_iadd dX1_answer_41 ?_
  refine nk_top (y := nI (dp + 1)) (nI_1 dp) ?_
  refine nk_cVi kX1_39 (hB) dX1_answer_42 hQ.1 rfl rfl (by omega) (Nat.le_of_ble_eq_true rfl) ?_
  refine nk_ireturn dX1_answer_45 rfl ?_
  exact ⟨rfl, rfl⟩
set_option maxRecDepth 20000 in
theorem s_am {G : nk_EG} (hG : nk_GS G) {H : nk_AH} {q a t : Nat} {f : Nat → Int32} (hQ : cQ H q a f t) (ht : t ≤ 16) {q1 w1 j b : Nat} {κ : Int32} {F : Nat → Int32} (hX : cX H q1 w1 j κ b F) (hn : w1 ≠ a) (hb2 : 2 ≤ b) (hb10 : b ≤ 10) (hz : gz F b) {kk : Nat} (hκ : κ = nI kk) (hkk : kk = 1 ∨ kk = 2 ∨ kk = 3) {dp : Nat} (hdp : dp ≤ 9) : nk_Si G mX1_answer 7 [.ref q, .ref q1, .int 1, .int (nI dp)] H (av_am (gm F) (nk_tp b) j κ) (tk H q a f t (tl_am κ)) := by
  rcases hkk with rfl | rfl | rfl
  · subst hκ
    refine nk_S.mono (s_X1_answer1 hG hQ ht hX hn hb2 hb10 hz (kk := 1) (dp := dp) (D := 6) rfl (by omega) (s_b21 hQ ht hX hn hb2 hb10 hz (dp := dp + 1) (by omega) (by omega)) (by omega)) (fun r H' hr => ⟨hr.1.trans rfl, hr.2.trans rfl⟩)
  · subst hκ
    refine nk_S.mono (s_X1_answer1 hG hQ ht hX hn hb2 hb10 hz (kk := 2) (dp := dp) (D := 6) rfl (by omega) (s_b24 hQ ht hX hn hb2 hb10 hz (dp := dp + 1) (by omega) (by omega)) (by omega)) (fun r H' hr => ⟨hr.1.trans rfl, hr.2.trans rfl⟩)
  · subst hκ
    refine nk_S.mono (s_X1_answer1 hG hQ ht hX hn hb2 hb10 hz (kk := 3) (dp := dp) (D := 6) rfl (by omega) (s_b22 hQ ht hX hn hb2 hb10 hz (dp := dp + 1) (by omega) (by omega)) (by omega)) (fun r H' hr => ⟨hr.1.trans rfl, hr.2.trans rfl⟩)

set_option maxRecDepth 20000 in
theorem s_am12 {G : nk_EG} (hG : nk_GS G) {H : nk_AH} {q a t : Nat} {f : Nat → Int32} (hQ : cQ H q a f t) (ht : t ≤ 16) {q1 w1 j b : Nat} {κ : Int32} {F : Nat → Int32} (hX : cX H q1 w1 j κ b F) (hn : w1 ≠ a) (hb2 : 2 ≤ b) (hb10 : b ≤ 10) (hz : gz F b) {kk : Nat} (hκ : κ = nI kk) (hkk : kk = 1 ∨ kk = 2 ∨ kk = 3) {dp : Nat} (hdp : dp ≤ 9) : nk_Si G mX1_answer 12 [.ref q, .ref q1, .int 1, .int (nI dp)] H (av_am (gm F) (nk_tp b) j κ) (tk H q a f t (tl_am κ)) := by
  rcases hkk with rfl | rfl | rfl
  · subst hκ
    refine nk_S.mono (s_X1_answer1 hG hQ ht hX hn hb2 hb10 hz (kk := 1) (dp := dp) (D := 11) rfl (by omega) (s_b21 hQ ht hX hn hb2 hb10 hz (dp := dp + 1) (by omega) (by omega)) (by omega)) (fun r H' hr => ⟨hr.1.trans rfl, hr.2.trans rfl⟩)
  · subst hκ
    refine nk_S.mono (s_X1_answer1 hG hQ ht hX hn hb2 hb10 hz (kk := 2) (dp := dp) (D := 11) rfl (by omega) (s_b24 hQ ht hX hn hb2 hb10 hz (dp := dp + 1) (by omega) (by omega)) (by omega)) (fun r H' hr => ⟨hr.1.trans rfl, hr.2.trans rfl⟩)
  · subst hκ
    refine nk_S.mono (s_X1_answer1 hG hQ ht hX hn hb2 hb10 hz (kk := 3) (dp := dp) (D := 11) rfl (by omega) (s_b22 hQ ht hX hn hb2 hb10 hz (dp := dp + 1) (by omega) (by omega)) (by omega)) (fun r H' hr => ⟨hr.1.trans rfl, hr.2.trans rfl⟩)

theorem tl_as_eq {κ : Int32} : tl_as κ = [11] ++ ([10] ++ tl_am κ) := rfl
set_option maxRecDepth 20000 in
theorem s_b11 {G : nk_EG} {H : nk_AH} {q a t : Nat} {f : Nat → Int32} (hQ : cQ H q a f t) (ht : t ≤ 16) {q1 w1 j b : Nat} {κ : Int32} {F : Nat → Int32} (hX : cX H q1 w1 j κ b F) (hn : w1 ≠ a) (hb2 : 2 ≤ b) (hb10 : b ≤ 10) (hz : gz F b) (hG : nk_GS G) {kk : Nat} (hκ : κ = nI kk) (hkk : kk = 1 ∨ kk = 2 ∨ kk = 3) {dp d : Nat} (hdp : dp ≤ 7) (hd : 8 ≤ d) : nk_Si G mX1_body d [.ref q, .ref q1, .int 11, .int (nI dp)] H (av_as (gm F) (nk_tp b) j κ) (tk H q a f t (tl_as κ)) := by
  refine nk_S.of (by decide +kernel) (Nat.le_of_ble_eq_true rfl) rfl ?_
  have hle : nI dp ≤ 12 := (nI_leI (b := 12) (by omega) (by omega)).mpr (by omega)
  refine nk_iload_n (i := 3) dX1_body_0 rfl rfl ?_
  refine nk_bipush (v := 12) dX1_body_1 (by decide) ?_
  refine nk_icmple (tgt := 8) dX1_body_3 (by decide) (fun _ => ?_) (fun h3 => by first | exact absurd (hle) h3 | exact absurd h3 (hle))
  refine nk_aload_n (i := 0) dX1_body_8 rfl rfl ?_
  refine nk_iload_n (i := 2) dX1_body_9 rfl rfl ?_
  refine nk_cVv kX1_42 (s_X1_leave hQ ht) dX1_body_10 hQ.1 rfl rfl (by omega) (Nat.le_of_ble_eq_true rfl) ?_
  refine nk_iload_n (i := 3) dX1_body_13 rfl rfl ?_
  refine nk_iconst (v := 1) dX1_body_14 (by decide) ?_
  refine nk_iadd dX1_body_15 ?_
  refine nk_top (y := nI (dp + 1)) (nI_1 dp) ?_
  refine nk_istoreT dX1_body_16 (by decide) ?_
  refine nk_iload_n (i := 2) dX1_body_18 rfl rfl ?_
  refine nk_tableIn (tgt := 97) (off := 78) dX1_body_19 (by decide) (by decide) (by decide) (by decide) ?_
  refine nk_aload_n (i := 0) dX1_body_97 rfl rfl ?_
  refine nk_aload_n (i := 1) dX1_body_98 rfl rfl ?_
  refine nk_bipush (v := 10) dX1_body_99 (by decide) ?_
  refine nk_iload dX1_body_101 rfl ?_
  refine nk_cVi kX1_39 (s_b10 (hQ.k (xs := [11])) (tr_t_le _ _ ht) (hX.k hQ hn) hn hb2 hb10 hz (dp := dp + 1) (d := 5) (by omega) (by omega)) dX1_body_103 (hQ.k).1 rfl rfl (by omega) (Nat.le_of_ble_eq_true rfl) ?_
  have hX2 := (hX.k hQ hn (xs := [11])).k hQ.k hn (xs := [10])
  have hQ2 := (hQ.k (xs := [11])).k (xs := [10])
  refine nk_aload_n (i := 0) dX1_body_106 rfl rfl ?_
  refine nk_aload_n (i := 1) dX1_body_107 rfl rfl ?_
  refine nk_iconst (v := 1) dX1_body_108 (by decide) ?_
  refine nk_iload dX1_body_109 rfl ?_
  refine nk_cVi kX1_19 (s_am hG hQ2 (tr_t_le _ _ (tr_t_le _ _ ht)) hX2 hn hb2 hb10 hz hκ hkk (dp := dp + 1) (by omega)) dX1_body_111 hQ2.1 rfl rfl (by omega) (Nat.le_of_ble_eq_true rfl) ?_
  refine nk_iadd dX1_body_114 ?_
  refine nk_ireturn dX1_body_115 rfl ?_
  exact ⟨rfl, by rw [tk_tk hQ.k, tk_tk hQ]; rfl⟩
set_option maxRecDepth 20000 in
theorem s_b12 {G : nk_EG} {H : nk_AH} {q a t : Nat} {f : Nat → Int32} (hQ : cQ H q a f t) (ht : t ≤ 16) {q1 w1 j b : Nat} {κ : Int32} {F : Nat → Int32} (hX : cX H q1 w1 j κ b F) (hn : w1 ≠ a) (hb2 : 2 ≤ b) (hb10 : b ≤ 10) (hz : gz F b) (hG : nk_GS G) (hκ : κ = nI 2) {dp d : Nat} (hdp : dp ≤ 6) (hd : 9 ≤ d) : nk_Si G mX1_body d [.ref q, .ref q1, .int 12, .int (nI dp)] H (-av_as (gm F) (nk_tp b) j κ) (tk H q a f t ([12] ++ tl_as κ)) := by
  refine nk_S.of (by decide +kernel) (Nat.le_of_ble_eq_true rfl) rfl ?_
  have hle : nI dp ≤ 12 := (nI_leI (b := 12) (by omega) (by omega)).mpr (by omega)
  refine nk_iload_n (i := 3) dX1_body_0 rfl rfl ?_
  refine nk_bipush (v := 12) dX1_body_1 (by decide) ?_
  refine nk_icmple (tgt := 8) dX1_body_3 (by decide) (fun _ => ?_) (fun h3 => by first | exact absurd (hle) h3 | exact absurd h3 (hle))
  refine nk_aload_n (i := 0) dX1_body_8 rfl rfl ?_
  refine nk_iload_n (i := 2) dX1_body_9 rfl rfl ?_
  refine nk_cVv kX1_42 (s_X1_leave hQ ht) dX1_body_10 hQ.1 rfl rfl (by omega) (Nat.le_of_ble_eq_true rfl) ?_
  refine nk_iload_n (i := 3) dX1_body_13 rfl rfl ?_
  refine nk_iconst (v := 1) dX1_body_14 (by decide) ?_
  refine nk_iadd dX1_body_15 ?_
  refine nk_top (y := nI (dp + 1)) (nI_1 dp) ?_
  refine nk_istoreT dX1_body_16 (by decide) ?_
  refine nk_iload_n (i := 2) dX1_body_18 rfl rfl ?_
  refine nk_tableIn (tgt := 116) (off := 97) dX1_body_19 (by decide) (by decide) (by decide) (by decide) ?_
  refine nk_aload_n (i := 0) dX1_body_116 rfl rfl ?_
  refine nk_aload_n (i := 1) dX1_body_117 rfl rfl ?_
  refine nk_bipush (v := 11) dX1_body_118 (by decide) ?_
  refine nk_iload dX1_body_120 rfl ?_
  refine nk_cVi kX1_39 (s_b11 (hQ.k (xs := [12])) (tr_t_le _ _ ht) (hX.k hQ hn) hn hb2 hb10 hz hG hκ (Or.inr (Or.inl rfl)) (dp := dp + 1) (d := 8) (by omega) (by omega)) dX1_body_122 (hQ.k).1 rfl rfl (by omega) (Nat.le_of_ble_eq_true rfl) ?_
  refine nk_ineg dX1_body_125 ?_
  refine nk_ireturn dX1_body_126 rfl ?_
  exact ⟨rfl, tk_tk hQ⟩
set_option maxRecDepth 20000 in
theorem s_az {G : nk_EG} (hG : nk_GS G) {H : nk_AH} {q a t : Nat} {f : Nat → Int32} (hQ : cQ H q a f t) (ht : t ≤ 16) {q1 w1 j b : Nat} {κ : Int32} {F : Nat → Int32} (hX : cX H q1 w1 j κ b F) (hn : w1 ≠ a) (hb2 : 2 ≤ b) (hb10 : b ≤ 10) (hz : gz F b) {kk : Nat} (hκ : κ = nI kk) (hkk : kk = 1 ∨ kk = 2 ∨ kk = 3 ∨ kk = 4 ∨ kk = 5) {dp : Nat} (hdp : dp ≤ 5) : nk_Si G mX1_answer 10 [.ref q, .ref q1, .int 0, .int (nI dp)] H (av_sz (gm F) (nk_tp b) j κ) (tk H q a f t (tl_sz κ)) := by
  rcases hkk with rfl | rfl | rfl | rfl | rfl
  · subst hκ
    refine nk_S.mono (s_X1_answer0 hG hQ ht hX hn hb2 hb10 hz (kk := 1) (dp := dp) (D := 9) rfl (by omega) (s_b11 hQ ht hX hn hb2 hb10 hz hG (kk := 1) rfl (Or.inl rfl) (dp := dp + 1) (by omega) (by omega)) (by omega)) (fun r H' hr => ⟨hr.1.trans rfl, hr.2.trans rfl⟩)
  · subst hκ
    refine nk_S.mono (s_X1_answer0 hG hQ ht hX hn hb2 hb10 hz (kk := 2) (dp := dp) (D := 9) rfl (by omega) (s_b12 hQ ht hX hn hb2 hb10 hz hG rfl (dp := dp + 1) (by omega) (by omega)) (by omega)) (fun r H' hr => ⟨hr.1.trans rfl, hr.2.trans rfl⟩)
  · subst hκ
    refine nk_S.mono (s_X1_answer0 hG hQ ht hX hn hb2 hb10 hz (kk := 3) (dp := dp) (D := 9) rfl (by omega) (s_b11 hQ ht hX hn hb2 hb10 hz hG (kk := 3) rfl (Or.inr (Or.inr rfl)) (dp := dp + 1) (by omega) (by omega)) (by omega)) (fun r H' hr => ⟨hr.1.trans rfl, hr.2.trans rfl⟩)
  · subst hκ
    refine nk_S.mono (s_X1_answer0 hG hQ ht hX hn hb2 hb10 hz (kk := 4) (dp := dp) (D := 9) rfl (by omega) (s_b13 hQ ht hX hn hb2 hb10 hz (dp := dp + 1) (by omega) (by omega)) (by omega)) (fun r H' hr => ⟨hr.1.trans rfl, hr.2.trans rfl⟩)
  · subst hκ
    refine nk_S.mono (s_X1_answer0 hG hQ ht hX hn hb2 hb10 hz (kk := 5) (dp := dp) (D := 9) rfl (by omega) (s_b14 hQ ht hX hn hb2 hb10 hz (dp := dp + 1) (by omega) (by omega)) (by omega)) (fun r H' hr => ⟨hr.1.trans rfl, hr.2.trans rfl⟩)

set_option maxRecDepth 20000 in
theorem s_b23 {G : nk_EG} {H : nk_AH} {q a t : Nat} {f : Nat → Int32} (hQ : cQ H q a f t) (ht : t ≤ 16) {q1 w1 j b : Nat} {κ : Int32} {F : Nat → Int32} (hX : cX H q1 w1 j κ b F) (hn : w1 ≠ a) (hb2 : 2 ≤ b) (hb10 : b ≤ 10) (hz : gz F b) (hG : nk_GS G) {kk : Nat} (hκ : κ = nI kk) (hkk : kk = 4 ∨ kk = 5) {dp d : Nat} (hdp : dp ≤ 4) (hd : 11 ≤ d) : nk_Si G mX1_body d [.ref q, .ref q1, .int 23, .int (nI dp)] H (av_bm (gm F) (nk_tp b) j κ) (tk H q a f t (tl_bm κ)) := by
  refine nk_S.of (by decide +kernel) (Nat.le_of_ble_eq_true rfl) rfl ?_
  have hle : nI dp ≤ 12 := (nI_leI (b := 12) (by omega) (by omega)).mpr (by omega)
  refine nk_iload_n (i := 3) dX1_body_0 rfl rfl ?_
  refine nk_bipush (v := 12) dX1_body_1 (by decide) ?_
  refine nk_icmple (tgt := 8) dX1_body_3 (by decide) (fun _ => ?_) (fun h3 => by first | exact absurd (hle) h3 | exact absurd h3 (hle))
  refine nk_aload_n (i := 0) dX1_body_8 rfl rfl ?_
  refine nk_iload_n (i := 2) dX1_body_9 rfl rfl ?_
  refine nk_cVv kX1_42 (s_X1_leave hQ ht) dX1_body_10 hQ.1 rfl rfl (by omega) (Nat.le_of_ble_eq_true rfl) ?_
  refine nk_iload_n (i := 3) dX1_body_13 rfl rfl ?_
  refine nk_iconst (v := 1) dX1_body_14 (by decide) ?_
  refine nk_iadd dX1_body_15 ?_
  refine nk_top (y := nI (dp + 1)) (nI_1 dp) ?_
  refine nk_istoreT dX1_body_16 (by decide) ?_
  refine nk_iload_n (i := 2) dX1_body_18 rfl rfl ?_
  refine nk_tableIn (tgt := 190) (off := 171) dX1_body_19 (by decide) (by decide) (by decide) (by decide) ?_
  refine nk_aload_n (i := 0) dX1_body_190 rfl rfl ?_
  refine nk_aload_n (i := 1) dX1_body_191 rfl rfl ?_
  refine nk_bipush (v := 20) dX1_body_192 (by decide) ?_
  refine nk_iload dX1_body_194 rfl ?_
  refine nk_cVi kX1_39 (s_b20 (hQ.k (xs := [23])) (tr_t_le _ _ ht) (hX.k hQ hn) hn hb2 hb10 hz (dp := dp + 1) (d := 2) (by omega) (by omega)) dX1_body_196 (hQ.k).1 rfl rfl (by omega) (Nat.le_of_ble_eq_true rfl) ?_
  have hX2 := (hX.k hQ hn (xs := [23])).k hQ.k hn (xs := [20])
  have hQ2 := (hQ.k (xs := [23])).k (xs := [20])
  refine nk_aload_n (i := 0) dX1_body_199 rfl rfl ?_
  refine nk_aload_n (i := 1) dX1_body_200 rfl rfl ?_
  refine nk_iconst (v := 0) dX1_body_201 (by decide) ?_
  refine nk_iload dX1_body_202 rfl ?_
  refine nk_cVi kX1_19 (s_az hG hQ2 (tr_t_le _ _ (tr_t_le _ _ ht)) hX2 hn hb2 hb10 hz hκ (hkk.elim (fun z => Or.inr (Or.inr (Or.inr (Or.inl z)))) (fun z => Or.inr (Or.inr (Or.inr (Or.inr z))))) (dp := dp + 1) (by omega)) dX1_body_204 hQ2.1 rfl rfl (by omega) (Nat.le_of_ble_eq_true rfl) ?_
  refine nk_isub dX1_body_207 ?_
  refine nk_ireturn dX1_body_208 rfl ?_
  exact ⟨rfl, by rw [tk_tk hQ.k, tk_tk hQ]; rfl⟩
set_option maxRecDepth 20000 in
theorem s_bm {G : nk_EG} (hG : nk_GS G) {H : nk_AH} {q a t : Nat} {f : Nat → Int32} (hQ : cQ H q a f t) (ht : t ≤ 16) {q1 w1 j b : Nat} {κ : Int32} {F : Nat → Int32} (hX : cX H q1 w1 j κ b F) (hn : w1 ≠ a) (hb2 : 2 ≤ b) (hb10 : b ≤ 10) (hz : gz F b) {kk : Nat} (hκ : κ = nI kk) (hkk : kk = 4 ∨ kk = 5) {dp : Nat} (hdp : dp ≤ 3) : nk_Si G mX1_answer 12 [.ref q, .ref q1, .int 1, .int (nI dp)] H (av_bm (gm F) (nk_tp b) j κ) (tk H q a f t (tl_bm κ)) := by
  rcases hkk with rfl | rfl
  · subst hκ
    refine nk_S.mono (s_X1_answer1 hG hQ ht hX hn hb2 hb10 hz (kk := 4) (dp := dp) (D := 11) rfl (by omega) (s_b23 hQ ht hX hn hb2 hb10 hz hG (kk := 4) rfl (Or.inl rfl) (dp := dp + 1) (by omega) (by omega)) (by omega)) (fun r H' hr => ⟨hr.1.trans rfl, hr.2.trans rfl⟩)
  · subst hκ
    refine nk_S.mono (s_X1_answer1 hG hQ ht hX hn hb2 hb10 hz (kk := 5) (dp := dp) (D := 11) rfl (by omega) (s_b23 hQ ht hX hn hb2 hb10 hz hG (kk := 5) rfl (Or.inr rfl) (dp := dp + 1) (by omega) (by omega)) (by omega)) (fun r H' hr => ⟨hr.1.trans rfl, hr.2.trans rfl⟩)

theorem tk_z {H : nk_AH} {q a t : Nat} {f : Nat → Int32} {xs : List Int32} (h : cQ H q a f t) : tk (nk_u H q (akc a 0)) q a f 0 xs = tk H q a f 0 xs := by
  unfold tk
  rw [nk_u_push h.ne]
theorem cQ.z {H : nk_AH} {q a t : Nat} {f : Nat → Int32} (h : cQ H q a f t) : cQ (nk_u H q (akc a 0)) q a f 0 := ⟨nk_u_self _ _ _, by rw [nk_u_ne h.ne.symm]; exact h.2⟩
theorem cX.z {H : nk_AH} {q a t q1 w1 j b : Nat} {f F : Nat → Int32} {κ : Int32} (hX : cX H q1 w1 j κ b F) (h : cQ H q a f t) : cX (nk_u H q (akc a 0)) q1 w1 j κ b F := by
  obtain ⟨g, h1, h2⟩ := hX
  exact cX.at ⟨g, h1, h2⟩ (nk_u_ne (nk_cdif h1.1 h.1 (by intro z; simp at z))) (nk_u_ne (nk_cdif h1.2 h.1 (by intro z; cases z)))
set_option maxRecDepth 20000 in
theorem s_X1_answerAnew0 {G : nk_EG} (hG : nk_GS G) {H : nk_AH} {q a t : Nat} {f : Nat → Int32} (hQ : cQ H q a f t) (ht : t ≤ 16) {q1 w1 j b : Nat} {κ : Int32} {F : Nat → Int32} (hX : cX H q1 w1 j κ b F) (hn : w1 ≠ a) (hb2 : 2 ≤ b) (hb10 : b ≤ 10) (hz : gz F b) {kk : Nat} (hκ : κ = nI kk) (hk1 : 1 ≤ kk) (hk5 : kk ≤ 5) : nk_Si G mX1_answerAnew 13 [.ref q, .ref q1, .int 0] H (av_ask (gm F) (nk_tp b) j κ 0) (tk H q a f 0 (tl_ask κ 0)) := by
  refine nk_S.of (by decide +kernel) (Nat.le_of_ble_eq_true rfl) rfl ?_
  refine nk_aload_n (i := 0) dX1_answerAnew_0 rfl rfl ?_
  refine nk_iconst (v := 0) dX1_answerAnew_1 (by decide) ?_
  refine nk_putf pX1_15 dX1_answerAnew_2 hQ.1 rfl rfl (Nat.le_of_ble_eq_true rfl) rfl ?_
  refine nk_aload_n (i := 0) dX1_answerAnew_5 rfl rfl ?_
  refine nk_aload_n (i := 1) dX1_answerAnew_6 rfl rfl ?_
  refine nk_iload_n (i := 2) dX1_answerAnew_7 rfl rfl ?_
  refine nk_iconst (v := 0) dX1_answerAnew_8 (by decide) ?_
  refine nk_cVi kX1_19 (nk_S.mono (s_az hG hQ.z (by omega) (hX.z hQ) hn hb2 hb10 hz hκ (by omega) (dp := 0) (by omega)) (fun r H' hr => (⟨hr.1, hr.2⟩ : nk_ri _ _ r H'))) dX1_answerAnew_9 (nk_u_self _ _ _) rfl rfl (by decide) (Nat.le_of_ble_eq_true rfl) ?_
  refine nk_ireturn dX1_answerAnew_12 rfl ?_
  exact ⟨rfl, tk_z hQ⟩
set_option maxRecDepth 20000 in
theorem s_X1_answerAnew1 {G : nk_EG} (hG : nk_GS G) {H : nk_AH} {q a t : Nat} {f : Nat → Int32} (hQ : cQ H q a f t) (ht : t ≤ 16) {q1 w1 j b : Nat} {κ : Int32} {F : Nat → Int32} (hX : cX H q1 w1 j κ b F) (hn : w1 ≠ a) (hb2 : 2 ≤ b) (hb10 : b ≤ 10) (hz : gz F b) {kk : Nat} (hκ : κ = nI kk) (hk1 : 1 ≤ kk) (hk5 : kk ≤ 5) : nk_Si G mX1_answerAnew 13 [.ref q, .ref q1, .int 1] H (av_ask (gm F) (nk_tp b) j κ 1) (tk H q a f 0 (tl_ask κ 1)) := by
  refine nk_S.of (by decide +kernel) (Nat.le_of_ble_eq_true rfl) rfl ?_
  have hA : nk_Si G mX1_answer 12 [.ref q, .ref q1, .int 1, .int (nI 0)] (nk_u H q (akc a 0)) (av_ask (gm F) (nk_tp b) j κ 1) (tk (nk_u H q (akc a 0)) q a f 0 (tl_ask κ 1)) := by
    by_cases z : kk = 4 ∨ kk = 5
    · have e : κ = 4 ∨ κ = 5 := z.elim (fun y => Or.inl (by rw [hκ, y]; rfl)) (fun y => Or.inr (by rw [hκ, y]; rfl))
      refine nk_S.mono (s_bm hG hQ.z (by omega) (hX.z hQ) hn hb2 hb10 hz hκ z (dp := 0) (by omega)) (fun r H' hr => ⟨?_, ?_⟩)
      · rw [hr.1]; unfold av_ask; rw [if_neg (by decide), if_pos e]
      · rw [hr.2]; unfold tl_ask; rw [if_neg (by decide), if_pos e]
    · have e : ¬ (κ = 4 ∨ κ = 5) := fun y => z (y.elim (fun y => Or.inl (nk_eqI (b := 4) (hκ.symm.trans y) (by omega) (by omega))) (fun y => Or.inr (nk_eqI (b := 5) (hκ.symm.trans y) (by omega) (by omega))))
      refine nk_S.mono (s_am12 hG hQ.z (by omega) (hX.z hQ) hn hb2 hb10 hz hκ (by omega) (dp := 0) (by omega)) (fun r H' hr => ⟨?_, ?_⟩)
      · rw [hr.1]; unfold av_ask; rw [if_neg (by decide), if_neg e]
      · rw [hr.2]; unfold tl_ask; rw [if_neg (by decide), if_neg e]
  refine nk_aload_n (i := 0) dX1_answerAnew_0 rfl rfl ?_
  refine nk_iconst (v := 0) dX1_answerAnew_1 (by decide) ?_
  refine nk_putf pX1_15 dX1_answerAnew_2 hQ.1 rfl rfl (Nat.le_of_ble_eq_true rfl) rfl ?_
  refine nk_aload_n (i := 0) dX1_answerAnew_5 rfl rfl ?_
  refine nk_aload_n (i := 1) dX1_answerAnew_6 rfl rfl ?_
  refine nk_iload_n (i := 2) dX1_answerAnew_7 rfl rfl ?_
  refine nk_iconst (v := 0) dX1_answerAnew_8 (by decide) ?_
  refine nk_cVi kX1_19 (hA) dX1_answerAnew_9 (nk_u_self _ _ _) rfl rfl (by decide) (Nat.le_of_ble_eq_true rfl) ?_
  refine nk_ireturn dX1_answerAnew_12 rfl ?_
  exact ⟨rfl, tk_z hQ⟩
set_option maxRecDepth 20000 in
theorem s_X1_init {G : nk_EG} {H : nk_AH} {q : Nat} (hq : H q = some (.inr (1, [.null, .int 0]))) : nk_S G mX1_init 1 1 16 [.ref q] H (fun r H' => r = none ∧ ∃ a, H a = none ∧ H' = nk_u (nk_u H a (inc 16 (fun _ => 0))) q (akc a 0)) := by
  refine nk_S.of (by decide +kernel) (Nat.le_of_ble_eq_true rfl) rfl ?_
  refine nk_aload_n (i := 0) dX1_init_0 rfl rfl ?_
  refine nk_objInit kX1_3 nk_oi1 nk_oi2 dX1_init_1 (by decide) (Nat.le_of_ble_eq_true rfl) ?_
  refine nk_aload_n (i := 0) dX1_init_4 rfl rfl ?_
  refine nk_bipush (v := 16) dX1_init_5 (by decide) ?_
  refine nk_newi (N := 16) (bc' := 0) (bs' := 0) nk_ac_int dX1_init_7 (rfl) (by decide) ⟨Nat.le_of_ble_eq_true rfl, Nat.le_of_ble_eq_true rfl⟩ (fun c hc => ?_)
  have hne : q ≠ c := nk_ne hq hc
  refine nk_putF pX1_9 rfl (by intro q hq; cases hq; rfl) dX1_init_9 ((nk_u_ne hne).trans hq) rfl rfl (Nat.le_of_ble_eq_true rfl) rfl ?_
  refine nk_aload_n (i := 0) dX1_init_12 rfl rfl ?_
  refine nk_iconst (v := 0) dX1_init_13 (by decide) ?_
  refine nk_putf pX1_15 dX1_init_14 (nk_u_self _ _ _) rfl rfl (Nat.le_of_ble_eq_true rfl) rfl ?_
  refine nk_J.to ?_ rfl rfl (nk_u_u _ _ _ _)
  refine nk_vreturn dX1_init_17 rfl ?_
  exact ⟨rfl, c, hc, rfl⟩
