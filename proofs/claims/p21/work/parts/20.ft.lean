theorem fl_cpy_Iv {n : Nat} {σ τ : zF} (h : fl_Iv n σ) : fl_Iv n (fl_cpy σ τ) := by
  obtain ⟨a, b, c, d, e, f⟩ := h
  have e8 : ∀ i, i < n → fl_cpy σ τ 8 i = σ 8 i := fun i hi => by simp [fl_cpy, fl_w, show i < 7 by omega]
  have e9 : ∀ i, i < n → fl_cpy σ τ 9 i = σ 9 i := fun i hi => by simp [fl_cpy, fl_w, show i < 7 by omega]
  refine ⟨by simp [fl_cpy, fl_w, a], b, c, fun i hi => ?_, fun i hi => ?_, fun i hi => ?_⟩
  · have g : fl_ln (fl_cpy σ τ) i = fl_ln σ i := by unfold fl_ln; rw [e8 i hi]
    rw [e8 i hi, g]; exact d i hi
  · have g : fl_kn (fl_cpy σ τ) i = fl_kn σ i := by unfold fl_kn; rw [e9 i hi]
    rw [e9 i hi, g]; exact e i hi
  · have g : fl_cpy σ τ 7 i = σ 7 i := by simp [fl_cpy, fl_w, hi]
    rw [g]; exact f i hi
theorem fl_app_ln {σ : zF} {b : Nat} (x y : Int32) (h : fl_ln σ b + 1 < 2 ^ 31) : fl_ln (fl_app σ b x y) b = fl_ln σ b + 1 := by
  unfold fl_app
  rw [fl_ln_U8 _ _ _ _ h, if_pos rfl]
theorem zt_IAE_27 : zThr RX2 23 27 "java/lang/IllegalArgumentException" := ⟨wl_X2_23, wi_IllegalArgumentException, fun w hw => List.mem_filter.mpr ⟨(by decide +kernel : ∀ w ∈ (vx_atS RX2 27 "java/lang/IllegalArgumentException" zNM).filter goodWord, w ∈ lw_tbl) w hw, (List.mem_filter.mp hw).2⟩, (by decide +kernel : ∀ w ∈ (vx_atS RX2 27 "java/lang/IllegalArgumentException" zNM).filter (fun w => !goodWord w), w ∈ lw_env), by decide +kernel, by decide +kernel, by decide +kernel⟩
theorem zt_IOB_135 : zThr RX2 131 135 "java/lang/IndexOutOfBoundsException" := ⟨wl_X2_131, wi_IndexOutOfBoundsException, fun w hw => List.mem_filter.mpr ⟨(by decide +kernel : ∀ w ∈ (vx_atS RX2 135 "java/lang/IndexOutOfBoundsException" zNM).filter goodWord, w ∈ lw_tbl) w hw, (List.mem_filter.mp hw).2⟩, (by decide +kernel : ∀ w ∈ (vx_atS RX2 135 "java/lang/IndexOutOfBoundsException" zNM).filter (fun w => !goodWord w), w ∈ lw_env), by decide +kernel, by decide +kernel, by decide +kernel⟩
theorem zt_ISE_63 : zThr RX2 59 63 "java/lang/IllegalStateException" := ⟨wl_X2_59, wi_IllegalStateException, fun w hw => List.mem_filter.mpr ⟨(by decide +kernel : ∀ w ∈ (vx_atS RX2 63 "java/lang/IllegalStateException" zNM).filter goodWord, w ∈ lw_tbl) w hw, (List.mem_filter.mp hw).2⟩, (by decide +kernel : ∀ w ∈ (vx_atS RX2 63 "java/lang/IllegalStateException" zNM).filter (fun w => !goodWord w), w ∈ lw_env), by decide +kernel, by decide +kernel, by decide +kernel⟩
theorem no_lt {x : Int32} {k : Nat} (h : x < 0 ∨ nI k ≤ x) (h1 : ¬ x < 0) (h2 : x < nI k) : False := h.elim h1 (fun q => Int32.not_lt.mpr q h2)
theorem no_rg {x : Int32} {a k : Nat} (h : x < nI a ∨ nI k < x) (h1 : ¬ x < nI a) (h2 : x ≤ nI k) : False := h.elim h1 (fun q => Int32.not_lt.mpr h2 q)
theorem zb_nar1 {v : Int32} (h : v = nI 1) : narrow .boolean (.int v) = .int v := by subst h; decide
def fl_sm (f : Nat → Nat) : Nat → Nat
  | 0 => 0
  | i + 1 => fl_sm f i + f i
theorem fl_sm_le {f : Nat → Nat} {n : Nat} (h : ∀ i, i < n → f i ≤ 10) : ∀ i, i ≤ n → fl_sm f i ≤ 10 * i
  | 0, _ => by simp [fl_sm]
  | i + 1, hi => by
    have h1 := fl_sm_le h i (by omega)
    have h2 := h i (by omega)
    unfold fl_sm
    omega
theorem fl_ddt : ∀ v, v < 71 → ∀ k, k < 8 → 3 ≤ k → (FP.ddiv (FP.i2d (nI v)) (FP.i2d (nI k))) &&& 0x7fffffffffffffff ≤ 0x7ff0000000000000 := by decide +kernel
theorem fl_dd {v k : Nat} (hv : v ≤ 70) (h3 : 3 ≤ k) (h7 : k ≤ 7) : vf_n64 (FP.ddiv (FP.i2d (nI v)) (FP.i2d (nI k))) := fl_ddt v (by omega) k (by omega) h3
def fl_untL (n : Nat) : Nat → Nat → zF → Int32 × zF
  | 0, _, ρ => (-1, ρ)
  | f + 1, o, ρ => if fl_led n ρ = true then (nI o, ρ) else fl_untL n f (o + 1) (fl_hour n ρ)
def fl_unt (n o : Nat) (ρ : zF) : Int32 × zF := fl_untL n (61 - o) o ρ
theorem fl_unt_go (n o : Nat) (ρ : zF) (h : o < 61) : fl_unt n o ρ = if fl_led n ρ = true then (nI o, ρ) else fl_unt n (o + 1) (fl_hour n ρ) := by
  unfold fl_unt
  rw [show 61 - o = (61 - (o + 1)) + 1 by omega]
  rfl
theorem fl_unt_end (n o : Nat) (ρ : zF) (h : 61 ≤ o) : fl_unt n o ρ = (-1, ρ) := by
  unfold fl_unt
  rw [show 61 - o = 0 by omega]
  rfl
def fl_advS (n : Nat) (σ τ : zF) (b k h : Nat) : zF := fl_hours n k (zU (fl_cpy σ τ) 6 b (nI h))
def fl_advL (n : Nat) (σ : zF) (b k : Nat) (τ : zF) : Nat → Int32 × Int32 × zF
  | 0 => (nI 0, -1, τ)
  | h + 1 => if (fl_advL n σ b k τ h).2.1 < fl_max (fl_advS n σ (fl_advL n σ b k τ h).2.2 b k h 9) n then (nI h, fl_max (fl_advS n σ (fl_advL n σ b k τ h).2.2 b k h 9) n, fl_advS n σ (fl_advL n σ b k τ h).2.2 b k h) else ((fl_advL n σ b k τ h).1, (fl_advL n σ b k τ h).2.1, fl_advS n σ (fl_advL n σ b k τ h).2.2 b k h)
def fl_dF (f : Nat → Int32) : Nat → Int64 → Int64
  | 0, d => d
  | i + 1, d => (fl_dF f i d * 31) + (f i).toInt64
def fl_dE (n : Nat) (σ : zF) (b : Nat) : Nat → Int64 → Int64
  | 0, d => d
  | k + 1, d => fl_dF (fl_ofE n σ b k) 3 (fl_dE n σ b k d)
def fl_dB (n : Nat) (σ : zF) (b : Nat) (d : Int64) : Int64 := fl_dE n σ b (fl_ln σ b) (fl_dF (fl_ofB σ b) 10 d)
def fl_dA (n : Nat) (σ : zF) : Nat → Int64
  | 0 => fl_dF (fl_ofF n σ) 10 1759
  | b + 1 => fl_dB n σ b (fl_dA n σ b)
theorem fl_ldr_lt (σ : zF) : ∀ i j : Nat, fl_ldr σ i = some j → j < i
  | 0, j, e => by simp [fl_ldr] at e
  | i + 1, j, e => by
    unfold fl_ldr at e
    split at e
    · split at e
      · simp at e; omega
      · rename_i k hk
        have := fl_ldr_lt σ i k hk
        split at e <;> simp at e <;> omega
    · have := fl_ldr_lt σ i j e
      omega
set_option maxHeartbeats 4000000 in
set_option maxRecDepth 100000 in
theorem c_X2_needBoat (l : Launch) (D : va_G) (cI cZ cB cE : ClassId) (t : Nat) (a ta : Nat → Nat) (σ τ : zF) (n : Nat) (hI : fl_Iv n σ) (i : Nat) (hi : i < n) : zM l D (tyL cI cZ cB cE) yX2_needBoat cX2_needBoat 2 none (zR 6 100) [.ref (t), .int (nI (i))] [(shT t a ta, zZ), (shF a cI cZ, σ), (shF ta cI cZ, τ)] 0 0 (fun r u => r = none ∧ u = [(shT t a ta, zZ), (shF a cI cZ, σ), (shF ta cI cZ, τ)]) := by
  have hn3 := hI.n3
  have hn7 := hI.n7
  refine z_of (by decide) (Nat.le_of_ble_eq_true rfl) rfl ?_
  intro p e s m args below meth c A C hr hin
  obtain ⟨Q, hQ⟩ : ∃ Q, Q = MQ below (zQ (fun r u => r = none ∧ u = [(shT t a ta, zZ), (shF a cI cZ, σ), (shF ta cI cZ, τ)]) D (tyL cI cZ cB cE) A) args s 0 0 A := ⟨_, rfl⟩
  rw [← hQ]
  refine z_iload_n C dX2_needBoat_0 rfl 1 rfl ?_
  refine z_if_ltN C (tgt := 15) dX2_needBoat_1 (by decide) (by omega) ?_
  refine z_iload_n C dX2_needBoat_4 rfl 1 rfl ?_
  refine z_aload_n C dX2_needBoat_5 rfl 0 rfl ?_
  refine z_getR C wu_X2 0 rfl 0 rfl rfl 0 (by decide) rfl wf_X2_10 dX2_needBoat_6 ?_
  refine z_getI C wu_X0 1 rfl 0 rfl rfl 0 (by decide) rfl wf_X2_107 dX2_needBoat_9 ?_
  refine z_top (hI.n0 : _ = nI n) ?_
  refine z_icmp_ltN C (tgt := 25) dX2_needBoat_12 (by decide) (by omega) (by omega) (fun c_12 => ?_) (fun c_12 => ?_)
  · rw [hQ]; exact z_vret C hr dX2_needBoat_25 ⟨rfl, rfl⟩
  · exact absurd c_12 (by omega)
set_option maxHeartbeats 4000000 in
set_option maxRecDepth 100000 in
theorem c_X2_needBoat_bad (l : Launch) (hlt : l.stackTraces = false) (D : va_G) (cI cZ cB cE : ClassId) (t : Nat) (a ta : Nat → Nat) (σ τ : zF) (n : Nat) (hI : fl_Iv n σ) (x : Int32) (hx : x < 0 ∨ nI n ≤ x) : zT l D (tyL cI cZ cB cE) yX2_needBoat cX2_needBoat 2 none ({ frames := 6, cells := 1, slots := 6, locals := 100 } : Room) [.ref (t), .int (x)] [(shT t a ta, zZ), (shF a cI cZ, σ), (shF ta cI cZ, τ)] "java/lang/IndexOutOfBoundsException" := by
  have hn3 := hI.n3
  have hn7 := hI.n7
  refine z_ofT (by decide) (Nat.le_of_ble_eq_true rfl) rfl ?_
  intro p e s m args below meth c A C htab
  refine z_iload_n C dX2_needBoat_0 rfl 1 rfl ?_
  refine z_if_lt C (tgt := 15) dX2_needBoat_1 (by decide) (fun c_1 => ?_) (fun c_1 => ?_)
  · exact z_throwS C hlt htab zt_IOB_135 (by decide : (RX2, 153, "no such boat") ∈ zSt) dX2_needBoat_15 dX2_needBoat_18 dX2_needBoat_19 dX2_needBoat_21 dX2_needBoat_24 ⟨Nat.le_of_ble_eq_true rfl, Nat.le_of_ble_eq_true rfl, Nat.le_of_ble_eq_true rfl, Nat.le_of_ble_eq_true rfl⟩
  · refine z_iload_n C dX2_needBoat_4 rfl 1 rfl ?_
    refine z_aload_n C dX2_needBoat_5 rfl 0 rfl ?_
    refine z_getR C wu_X2 0 rfl 0 rfl rfl 0 (by decide) rfl wf_X2_10 dX2_needBoat_6 ?_
    refine z_getI C wu_X0 1 rfl 0 rfl rfl 0 (by decide) rfl wf_X2_107 dX2_needBoat_9 ?_
    refine z_top (hI.n0 : _ = nI n) ?_
    refine z_icmp_lt C (tgt := 25) dX2_needBoat_12 (by decide) (fun c_12 => ?_) (fun c_12 => ?_)
    · exact (no_lt hx c_1 c_12).elim
    · exact z_throwS C hlt htab zt_IOB_135 (by decide : (RX2, 153, "no such boat") ∈ zSt) dX2_needBoat_15 dX2_needBoat_18 dX2_needBoat_19 dX2_needBoat_21 dX2_needBoat_24 ⟨Nat.le_of_ble_eq_true rfl, Nat.le_of_ble_eq_true rfl, Nat.le_of_ble_eq_true rfl, Nat.le_of_ble_eq_true rfl⟩
set_option maxHeartbeats 4000000 in
set_option maxRecDepth 100000 in
theorem c_X2_needBelow (l : Launch) (D : va_G) (cI cZ cB cE : ClassId) (t : Nat) (a ta : Nat → Nat) (σ τ : zF) (n : Nat) (hI : fl_Iv n σ) (i : Nat) (k : Nat) (hi : i < k) (hk : k < 2 ^ 31) : zM l D (tyL cI cZ cB cE) yX2_needBelow cX2_needBelow 3 none (zR 6 100) [.ref (t), .int (nI (i)), .int (nI (k))] [(shT t a ta, zZ), (shF a cI cZ, σ), (shF ta cI cZ, τ)] 0 0 (fun r u => r = none ∧ u = [(shT t a ta, zZ), (shF a cI cZ, σ), (shF ta cI cZ, τ)]) := by
  have hn3 := hI.n3
  have hn7 := hI.n7
  refine z_of (by decide) (Nat.le_of_ble_eq_true rfl) rfl ?_
  intro p e s m args below meth c A C hr hin
  obtain ⟨Q, hQ⟩ : ∃ Q, Q = MQ below (zQ (fun r u => r = none ∧ u = [(shT t a ta, zZ), (shF a cI cZ, σ), (shF ta cI cZ, τ)]) D (tyL cI cZ cB cE) A) args s 0 0 A := ⟨_, rfl⟩
  rw [← hQ]
  refine z_iload_n C dX2_needBelow_0 rfl 1 rfl ?_
  refine z_if_ltN C (tgt := 9) dX2_needBelow_1 (by decide) (by omega) ?_
  refine z_iload_n C dX2_needBelow_4 rfl 1 rfl ?_
  refine z_iload_n C dX2_needBelow_5 rfl 2 rfl ?_
  refine z_icmp_ltN C (tgt := 19) dX2_needBelow_6 (by decide) (by omega) (by omega) (fun c_6 => ?_) (fun c_6 => ?_)
  · rw [hQ]; exact z_vret C hr dX2_needBelow_19 ⟨rfl, rfl⟩
  · exact absurd c_6 (by omega)
set_option maxHeartbeats 4000000 in
set_option maxRecDepth 100000 in
theorem c_X2_needBelow_bad (l : Launch) (hlt : l.stackTraces = false) (D : va_G) (cI cZ cB cE : ClassId) (t : Nat) (a ta : Nat → Nat) (σ τ : zF) (n : Nat) (hI : fl_Iv n σ) (x : Int32) (k : Nat) (hx : x < 0 ∨ nI k ≤ x) (hk : k < 2 ^ 31) : zT l D (tyL cI cZ cB cE) yX2_needBelow cX2_needBelow 3 none ({ frames := 6, cells := 1, slots := 6, locals := 100 } : Room) [.ref (t), .int (x), .int (nI (k))] [(shT t a ta, zZ), (shF a cI cZ, σ), (shF ta cI cZ, τ)] "java/lang/IndexOutOfBoundsException" := by
  have hn3 := hI.n3
  have hn7 := hI.n7
  refine z_ofT (by decide) (Nat.le_of_ble_eq_true rfl) rfl ?_
  intro p e s m args below meth c A C htab
  refine z_iload_n C dX2_needBelow_0 rfl 1 rfl ?_
  refine z_if_lt C (tgt := 9) dX2_needBelow_1 (by decide) (fun c_1 => ?_) (fun c_1 => ?_)
  · exact z_throwS C hlt htab zt_IOB_135 (by decide : (RX2, 155, "no such number") ∈ zSt) dX2_needBelow_9 dX2_needBelow_12 dX2_needBelow_13 dX2_needBelow_15 dX2_needBelow_18 ⟨Nat.le_of_ble_eq_true rfl, Nat.le_of_ble_eq_true rfl, Nat.le_of_ble_eq_true rfl, Nat.le_of_ble_eq_true rfl⟩
  · refine z_iload_n C dX2_needBelow_4 rfl 1 rfl ?_
    refine z_iload_n C dX2_needBelow_5 rfl 2 rfl ?_
    refine z_icmp_lt C (tgt := 19) dX2_needBelow_6 (by decide) (fun c_6 => ?_) (fun c_6 => ?_)
    · exact (no_lt hx c_1 c_6).elim
    · exact z_throwS C hlt htab zt_IOB_135 (by decide : (RX2, 155, "no such number") ∈ zSt) dX2_needBelow_9 dX2_needBelow_12 dX2_needBelow_13 dX2_needBelow_15 dX2_needBelow_18 ⟨Nat.le_of_ble_eq_true rfl, Nat.le_of_ble_eq_true rfl, Nat.le_of_ble_eq_true rfl, Nat.le_of_ble_eq_true rfl⟩
set_option maxHeartbeats 4000000 in
set_option maxRecDepth 100000 in
theorem c_X2_needHours (l : Launch) (D : va_G) (cI cZ cB cE : ClassId) (t : Nat) (a ta : Nat → Nat) (σ τ : zF) (n : Nat) (hI : fl_Iv n σ) (i : Nat) (k : Nat) (hi : 1 ≤ i ∧ i ≤ k) (hk : k < 2 ^ 31) : zM l D (tyL cI cZ cB cE) yX2_needHours cX2_needHours 3 none (zR 6 100) [.ref (t), .int (nI (i)), .int (nI (k))] [(shT t a ta, zZ), (shF a cI cZ, σ), (shF ta cI cZ, τ)] 0 0 (fun r u => r = none ∧ u = [(shT t a ta, zZ), (shF a cI cZ, σ), (shF ta cI cZ, τ)]) := by
  have hn3 := hI.n3
  have hn7 := hI.n7
  refine z_of (by decide) (Nat.le_of_ble_eq_true rfl) rfl ?_
  intro p e s m args below meth c A C hr hin
  obtain ⟨Q, hQ⟩ : ∃ Q, Q = MQ below (zQ (fun r u => r = none ∧ u = [(shT t a ta, zZ), (shF a cI cZ, σ), (shF ta cI cZ, τ)]) D (tyL cI cZ cB cE) A) args s 0 0 A := ⟨_, rfl⟩
  rw [← hQ]
  refine z_iload_n C dX2_needHours_0 rfl 1 rfl ?_
  refine z_iconst C (v := nI (1)) (by decide) dX2_needHours_1 ?_
  refine z_icmp_ltN C (tgt := 10) dX2_needHours_2 (by decide) (by omega) (by omega) (fun c_2 => ?_) (fun c_2 => ?_)
  · exact absurd c_2 (by omega)
  · refine z_iload_n C dX2_needHours_5 rfl 1 rfl ?_
    refine z_iload_n C dX2_needHours_6 rfl 2 rfl ?_
    refine z_icmp_leN C (tgt := 20) dX2_needHours_7 (by decide) (by omega) (by omega) (fun c_7 => ?_) (fun c_7 => ?_)
    · rw [hQ]; exact z_vret C hr dX2_needHours_20 ⟨rfl, rfl⟩
    · exact absurd c_7 (by omega)
set_option maxHeartbeats 4000000 in
set_option maxRecDepth 100000 in
theorem c_X2_needHours_bad (l : Launch) (hlt : l.stackTraces = false) (D : va_G) (cI cZ cB cE : ClassId) (t : Nat) (a ta : Nat → Nat) (σ τ : zF) (n : Nat) (hI : fl_Iv n σ) (x : Int32) (k : Nat) (hx : x < nI 1 ∨ nI k < x) (hk : k < 2 ^ 31) : zT l D (tyL cI cZ cB cE) yX2_needHours cX2_needHours 3 none ({ frames := 6, cells := 1, slots := 6, locals := 100 } : Room) [.ref (t), .int (x), .int (nI (k))] [(shT t a ta, zZ), (shF a cI cZ, σ), (shF ta cI cZ, τ)] "java/lang/IllegalArgumentException" := by
  have hn3 := hI.n3
  have hn7 := hI.n7
  refine z_ofT (by decide) (Nat.le_of_ble_eq_true rfl) rfl ?_
  intro p e s m args below meth c A C htab
  refine z_iload_n C dX2_needHours_0 rfl 1 rfl ?_
  refine z_iconst C (v := nI (1)) (by decide) dX2_needHours_1 ?_
  refine z_icmp_lt C (tgt := 10) dX2_needHours_2 (by decide) (fun c_2 => ?_) (fun c_2 => ?_)
  · exact z_throwS C hlt htab zt_IAE_27 (by decide : (RX2, 157, "too few or too many hours") ∈ zSt) dX2_needHours_10 dX2_needHours_13 dX2_needHours_14 dX2_needHours_16 dX2_needHours_19 ⟨Nat.le_of_ble_eq_true rfl, Nat.le_of_ble_eq_true rfl, Nat.le_of_ble_eq_true rfl, Nat.le_of_ble_eq_true rfl⟩
  · refine z_iload_n C dX2_needHours_5 rfl 1 rfl ?_
    refine z_iload_n C dX2_needHours_6 rfl 2 rfl ?_
    refine z_icmp_le C (tgt := 20) dX2_needHours_7 (by decide) (fun c_7 => ?_) (fun c_7 => ?_)
    · exact (no_rg hx c_2 c_7).elim
    · exact z_throwS C hlt htab zt_IAE_27 (by decide : (RX2, 157, "too few or too many hours") ∈ zSt) dX2_needHours_10 dX2_needHours_13 dX2_needHours_14 dX2_needHours_16 dX2_needHours_19 ⟨Nat.le_of_ble_eq_true rfl, Nat.le_of_ble_eq_true rfl, Nat.le_of_ble_eq_true rfl, Nat.le_of_ble_eq_true rfl⟩
set_option maxHeartbeats 4000000 in
set_option maxRecDepth 100000 in
theorem c_X2_fleet (l : Launch) (D : va_G) (cI cZ cB cE : ClassId) (t : Nat) (a ta : Nat → Nat) (σ τ : zF) (n : Nat) (hI : fl_Iv n σ) (k : Nat) (h3 : 3 ≤ k) (h7 : k ≤ 7) : zM l D (tyL cI cZ cB cE) yX2_fleet cX2_fleet 2 (some .int) (zR 6 100) [.ref (t), .int (nI (k))] [(shT t a ta, zZ), (shF a cI cZ, σ), (shF ta cI cZ, τ)] 0 0 (fun r u => r = some (.int (nI ((k / 2) + 1))) ∧ u = [(shT t a ta, zZ), (shF a cI cZ, (fl_begP k k σ)), (shF ta cI cZ, τ)]) := by
  have hn3 := hI.n3
  have hn7 := hI.n7
  refine z_of (by decide) (Nat.le_of_ble_eq_true rfl) rfl ?_
  intro p e s m args below meth c A C hr hin
  obtain ⟨Q, hQ⟩ : ∃ Q, Q = MQ below (zQ (fun r u => r = some (.int (nI ((k / 2) + 1))) ∧ u = [(shT t a ta, zZ), (shF a cI cZ, (fl_begP k k σ)), (shF ta cI cZ, τ)]) D (tyL cI cZ cB cE) A) args s 0 0 A := ⟨_, rfl⟩
  rw [← hQ]
  refine z_iload_n C dX2_fleet_0 rfl 1 rfl ?_
  refine z_iconst C (v := nI (3)) (by decide) dX2_fleet_1 ?_
  refine z_icmp_ltN C (tgt := 11) dX2_fleet_2 (by decide) (by omega) (by omega) (fun c_2 => ?_) (fun c_2 => ?_)
  · exact absurd c_2 (by omega)
  · refine z_iload_n C dX2_fleet_5 rfl 1 rfl ?_
    refine z_bipush C (v := nI (7)) (by decide) dX2_fleet_6 ?_
    refine z_icmp_leN C (tgt := 21) dX2_fleet_8 (by decide) (by omega) (by omega) (fun c_8 => ?_) (fun c_8 => ?_)
    · refine z_aload_n C dX2_fleet_21 rfl 0 rfl ?_
      refine z_getR C wu_X2 0 rfl 0 rfl rfl 0 (by decide) rfl wf_X2_10 dX2_fleet_22 ?_
      refine z_iload_n C dX2_fleet_25 rfl 1 rfl ?_
      refine z_cV C (st' := []) (B' := [(shT t a ta, zZ), (shF a cI cZ, (fl_begP k k σ)), (shF ta cI cZ, τ)]) [false, true, false] rfl (c_X0_begin l D cI cZ cB cE a σ k (by omega) (by omega)) wq_yX0_begin wm_X2_19 ⟨wn_yX0_begin, wo_yX0_begin⟩ ⟨rfl, rfl, Nat.le_of_ble_eq_true rfl, Nat.le_of_ble_eq_true rfl⟩ 1 rfl 0 rfl rfl rfl rfl (Nat.le_of_ble_eq_true rfl) dX2_fleet_26 ⟨Nat.le_of_ble_eq_true rfl, Nat.le_of_ble_eq_true rfl⟩ rfl rfl ?_
      refine z_iload_n C dX2_fleet_29 rfl 1 rfl ?_
      refine z_iconst C (v := nI (2)) (by decide) dX2_fleet_30 ?_
      refine z_idivN C dX2_fleet_31 (by omega) (by omega) (by omega) ?_
      refine z_iconst C (v := nI (1)) (by decide) dX2_fleet_32 ?_
      refine z_iaddN C dX2_fleet_33 ?_
      rw [hQ]; exact z_iret C hr dX2_fleet_34 ⟨rfl, rfl⟩
    · exact absurd c_8 (by omega)
set_option maxHeartbeats 4000000 in
set_option maxRecDepth 100000 in
theorem c_X2_fleet_b1 (l : Launch) (hlt : l.stackTraces = false) (D : va_G) (cI cZ cB cE : ClassId) (t : Nat) (a ta : Nat → Nat) (σ τ : zF) (n : Nat) (hI : fl_Iv n σ) (x : Int32) (hx : x < nI 3 ∨ nI 7 < x) : zT l D (tyL cI cZ cB cE) yX2_fleet cX2_fleet 2 (some .int) ({ frames := 6, cells := 1, slots := 6, locals := 100 } : Room) [.ref (t), .int (x)] [(shT t a ta, zZ), (shF a cI cZ, σ), (shF ta cI cZ, τ)] "java/lang/IllegalArgumentException" := by
  have hn3 := hI.n3
  have hn7 := hI.n7
  refine z_ofT (by decide) (Nat.le_of_ble_eq_true rfl) rfl ?_
  intro p e s m args below meth c A C htab
  refine z_iload_n C dX2_fleet_0 rfl 1 rfl ?_
  refine z_iconst C (v := nI (3)) (by decide) dX2_fleet_1 ?_
  refine z_icmp_lt C (tgt := 11) dX2_fleet_2 (by decide) (fun c_2 => ?_) (fun c_2 => ?_)
  · exact z_throwS C hlt htab zt_IAE_27 (by decide : (RX2, 25, "boats is not 3 to 7") ∈ zSt) dX2_fleet_11 dX2_fleet_14 dX2_fleet_15 dX2_fleet_17 dX2_fleet_20 ⟨Nat.le_of_ble_eq_true rfl, Nat.le_of_ble_eq_true rfl, Nat.le_of_ble_eq_true rfl, Nat.le_of_ble_eq_true rfl⟩
  · refine z_iload_n C dX2_fleet_5 rfl 1 rfl ?_
    refine z_bipush C (v := nI (7)) (by decide) dX2_fleet_6 ?_
    refine z_icmp_le C (tgt := 21) dX2_fleet_8 (by decide) (fun c_8 => ?_) (fun c_8 => ?_)
    · exact (no_rg hx c_2 c_8).elim
    · exact z_throwS C hlt htab zt_IAE_27 (by decide : (RX2, 25, "boats is not 3 to 7") ∈ zSt) dX2_fleet_11 dX2_fleet_14 dX2_fleet_15 dX2_fleet_17 dX2_fleet_20 ⟨Nat.le_of_ble_eq_true rfl, Nat.le_of_ble_eq_true rfl, Nat.le_of_ble_eq_true rfl, Nat.le_of_ble_eq_true rfl⟩
set_option maxHeartbeats 4000000 in
set_option maxRecDepth 100000 in
theorem c_X2_setPatience (l : Launch) (D : va_G) (cI cZ cB cE : ClassId) (t : Nat) (a ta : Nat → Nat) (σ τ : zF) (n : Nat) (hI : fl_Iv n σ) (b : Nat) (k : Nat) (hb : b < n) (h2 : 2 ≤ k) (h9 : k ≤ 9) : zM l D (tyL cI cZ cB cE) yX2_setPatience cX2_setPatience 4 (some .int) (zR 7 121) [.ref (t), .int (nI (b)), .int (nI (k))] [(shT t a ta, zZ), (shF a cI cZ, σ), (shF ta cI cZ, τ)] 0 0 (fun r u => r = some (.int (σ 1 (b))) ∧ u = [(shT t a ta, zZ), (shF a cI cZ, (zU σ 1 b (nI k))), (shF ta cI cZ, τ)]) := by
  have hn3 := hI.n3
  have hn7 := hI.n7
  refine z_of (by decide) (Nat.le_of_ble_eq_true rfl) rfl ?_
  intro p e s m args below meth c A C hr hin
  obtain ⟨Q, hQ⟩ : ∃ Q, Q = MQ below (zQ (fun r u => r = some (.int (σ 1 (b))) ∧ u = [(shT t a ta, zZ), (shF a cI cZ, (zU σ 1 b (nI k))), (shF ta cI cZ, τ)]) D (tyL cI cZ cB cE) A) args s 0 0 A := ⟨_, rfl⟩
  rw [← hQ]
  refine z_aload_n C dX2_setPatience_0 rfl 0 rfl ?_
  refine z_iload_n C dX2_setPatience_1 rfl 1 rfl ?_
  refine z_cV C (st' := []) (B' := [(shT t a ta, zZ), (shF a cI cZ, σ), (shF ta cI cZ, τ)]) [true, true, true] rfl (c_X2_needBoat l D cI cZ cB cE t a ta σ τ n hI b (by omega)) wq_yX2_needBoat wm_X2_30 ⟨wn_yX2_needBoat, wo_yX2_needBoat⟩ ⟨rfl, rfl, Nat.le_of_ble_eq_true rfl, Nat.le_of_ble_eq_true rfl⟩ 0 rfl 0 rfl rfl rfl rfl (Nat.le_of_ble_eq_true rfl) dX2_setPatience_2 ⟨Nat.le_of_ble_eq_true rfl, Nat.le_of_ble_eq_true rfl⟩ rfl rfl ?_
  refine z_iload_n C dX2_setPatience_5 rfl 2 rfl ?_
  refine z_iconst C (v := nI (2)) (by decide) dX2_setPatience_6 ?_
  refine z_icmp_ltN C (tgt := 16) dX2_setPatience_7 (by decide) (by omega) (by omega) (fun c_7 => ?_) (fun c_7 => ?_)
  · exact absurd c_7 (by omega)
  · refine z_iload_n C dX2_setPatience_10 rfl 2 rfl ?_
    refine z_bipush C (v := nI (9)) (by decide) dX2_setPatience_11 ?_
    refine z_icmp_leN C (tgt := 26) dX2_setPatience_13 (by decide) (by omega) (by omega) (fun c_13 => ?_) (fun c_13 => ?_)
    · refine z_aload_n C dX2_setPatience_26 rfl 0 rfl ?_
      refine z_getR C wu_X2 0 rfl 0 rfl rfl 0 (by decide) rfl wf_X2_10 dX2_setPatience_27 ?_
      refine z_getR C wu_X0 1 rfl 0 rfl rfl 5 (by decide) rfl wf_X2_35 dX2_setPatience_30 ?_
      refine z_iload_n C dX2_setPatience_33 rfl 1 rfl ?_
      refine z_iald C 1 rfl 1 0 rfl rfl dX2_setPatience_34 (by omega) (by decide) ?_
      refine z_istore_n C (L' := [(3, .int (σ 1 (b))), (0, .ref (t)), (1, .int (nI (b))), (2, .int (nI (k)))]) dX2_setPatience_35 rfl (by decide) rfl ?_
      refine z_aload_n C dX2_setPatience_36 rfl 1 rfl ?_
      refine z_getR C wu_X2 0 rfl 0 rfl rfl 0 (by decide) rfl wf_X2_10 dX2_setPatience_37 ?_
      refine z_getR C wu_X0 1 rfl 0 rfl rfl 5 (by decide) rfl wf_X2_35 dX2_setPatience_40 ?_
      refine z_iload_n C dX2_setPatience_43 rfl 2 rfl ?_
      refine z_iload_n C dX2_setPatience_44 rfl 3 rfl ?_
      refine z_iast C (B' := [(shT t a ta, zZ), (shF a cI cZ, (zU σ 1 (b) (nI (k)))), (shF ta cI cZ, τ)]) 1 rfl 1 0 rfl rfl dX2_setPatience_45 (by omega) (by decide) rfl ?_
      refine z_iload_n C dX2_setPatience_46 rfl 0 rfl ?_
      rw [hQ]; exact z_iret C hr dX2_setPatience_47 ⟨rfl, congrArg (fun x => [(shT t a ta, zZ), (shF a cI cZ, x), (shF ta cI cZ, τ)]) (by rfl)⟩
    · exact absurd c_13 (by omega)
set_option maxHeartbeats 4000000 in
set_option maxRecDepth 100000 in
theorem c_X2_setPatience_b1 (l : Launch) (hlt : l.stackTraces = false) (D : va_G) (cI cZ cB cE : ClassId) (t : Nat) (a ta : Nat → Nat) (σ τ : zF) (n : Nat) (hI : fl_Iv n σ) (x : Int32) (k : Int32) (hx : x < 0 ∨ nI n ≤ x) : zT l D (tyL cI cZ cB cE) yX2_setPatience cX2_setPatience 4 (some .int) ({ frames := 7, cells := 1, slots := 6, locals := 121 } : Room) [.ref (t), .int (x), .int (k)] [(shT t a ta, zZ), (shF a cI cZ, σ), (shF ta cI cZ, τ)] "java/lang/IndexOutOfBoundsException" := by
  have hn3 := hI.n3
  have hn7 := hI.n7
  refine z_ofT (by decide) (Nat.le_of_ble_eq_true rfl) rfl ?_
  intro p e s m args below meth c A C htab
  refine z_aload_n C dX2_setPatience_0 rfl 0 rfl ?_
  refine z_iload_n C dX2_setPatience_1 rfl 1 rfl ?_
  exact z_tV C htab [true, true, true] rfl rfl (c_X2_needBoat_bad l hlt D cI cZ cB cE t a ta σ τ n hI x hx) wq_yX2_needBoat wm_X2_30 ⟨wn_yX2_needBoat, wo_yX2_needBoat⟩ ⟨rfl, rfl, Nat.le_of_ble_eq_true rfl, Nat.le_of_ble_eq_true rfl⟩ 0 rfl 0 rfl rfl rfl rfl (Nat.le_of_ble_eq_true rfl) dX2_setPatience_2 ⟨Nat.le_of_ble_eq_true rfl, Nat.le_of_ble_eq_true rfl⟩
set_option maxHeartbeats 4000000 in
set_option maxRecDepth 100000 in
theorem c_X2_setPatience_b2 (l : Launch) (hlt : l.stackTraces = false) (D : va_G) (cI cZ cB cE : ClassId) (t : Nat) (a ta : Nat → Nat) (σ τ : zF) (n : Nat) (hI : fl_Iv n σ) (b : Nat) (x : Int32) (hb : b < n) (hx : x < nI 2 ∨ nI 9 < x) : zT l D (tyL cI cZ cB cE) yX2_setPatience cX2_setPatience 4 (some .int) ({ frames := 7, cells := 1, slots := 6, locals := 121 } : Room) [.ref (t), .int (nI (b)), .int (x)] [(shT t a ta, zZ), (shF a cI cZ, σ), (shF ta cI cZ, τ)] "java/lang/IllegalArgumentException" := by
  have hn3 := hI.n3
  have hn7 := hI.n7
  refine z_ofT (by decide) (Nat.le_of_ble_eq_true rfl) rfl ?_
  intro p e s m args below meth c A C htab
  refine z_aload_n C dX2_setPatience_0 rfl 0 rfl ?_
  refine z_iload_n C dX2_setPatience_1 rfl 1 rfl ?_
  refine z_cV C (st' := []) (B' := [(shT t a ta, zZ), (shF a cI cZ, σ), (shF ta cI cZ, τ)]) [true, true, true] rfl (c_X2_needBoat l D cI cZ cB cE t a ta σ τ n hI b (by omega)) wq_yX2_needBoat wm_X2_30 ⟨wn_yX2_needBoat, wo_yX2_needBoat⟩ ⟨rfl, rfl, Nat.le_of_ble_eq_true rfl, Nat.le_of_ble_eq_true rfl⟩ 0 rfl 0 rfl rfl rfl rfl (Nat.le_of_ble_eq_true rfl) dX2_setPatience_2 ⟨Nat.le_of_ble_eq_true rfl, Nat.le_of_ble_eq_true rfl⟩ rfl rfl ?_
  refine z_iload_n C dX2_setPatience_5 rfl 2 rfl ?_
  refine z_iconst C (v := nI (2)) (by decide) dX2_setPatience_6 ?_
  refine z_icmp_lt C (tgt := 16) dX2_setPatience_7 (by decide) (fun c_7 => ?_) (fun c_7 => ?_)
  · exact z_throwS C hlt htab zt_IAE_27 (by decide : (RX2, 33, "patience is not 2 to 9") ∈ zSt) dX2_setPatience_16 dX2_setPatience_19 dX2_setPatience_20 dX2_setPatience_22 dX2_setPatience_25 ⟨Nat.le_of_ble_eq_true rfl, Nat.le_of_ble_eq_true rfl, Nat.le_of_ble_eq_true rfl, Nat.le_of_ble_eq_true rfl⟩
  · refine z_iload_n C dX2_setPatience_10 rfl 2 rfl ?_
    refine z_bipush C (v := nI (9)) (by decide) dX2_setPatience_11 ?_
    refine z_icmp_le C (tgt := 26) dX2_setPatience_13 (by decide) (fun c_13 => ?_) (fun c_13 => ?_)
    · exact (no_rg hx c_7 c_13).elim
    · exact z_throwS C hlt htab zt_IAE_27 (by decide : (RX2, 33, "patience is not 2 to 9") ∈ zSt) dX2_setPatience_16 dX2_setPatience_19 dX2_setPatience_20 dX2_setPatience_22 dX2_setPatience_25 ⟨Nat.le_of_ble_eq_true rfl, Nat.le_of_ble_eq_true rfl, Nat.le_of_ble_eq_true rfl, Nat.le_of_ble_eq_true rfl⟩
set_option maxHeartbeats 4000000 in
set_option maxRecDepth 100000 in
theorem c_X2_go (l : Launch) (D : va_G) (cI cZ cB cE : ClassId) (t : Nat) (a ta : Nat → Nat) (σ τ : zF) (n : Nat) (hI : fl_Iv n σ) (b : Nat) (h : Nat) (hb : b < n) (hh : h < 3) : zM l D (tyL cI cZ cB cE) yX2_go cX2_go 4 (some .int) (zR 7 122) [.ref (t), .int (nI (b)), .int (nI (h))] [(shT t a ta, zZ), (shF a cI cZ, σ), (shF ta cI cZ, τ)] 0 0 (fun r u => r = some (.int (σ 6 (b))) ∧ u = [(shT t a ta, zZ), (shF a cI cZ, (zU σ 6 b (nI h))), (shF ta cI cZ, τ)]) := by
  have hn3 := hI.n3
  have hn7 := hI.n7
  refine z_of (by decide) (Nat.le_of_ble_eq_true rfl) rfl ?_
  intro p e s m args below meth c A C hr hin
  obtain ⟨Q, hQ⟩ : ∃ Q, Q = MQ below (zQ (fun r u => r = some (.int (σ 6 (b))) ∧ u = [(shT t a ta, zZ), (shF a cI cZ, (zU σ 6 b (nI h))), (shF ta cI cZ, τ)]) D (tyL cI cZ cB cE) A) args s 0 0 A := ⟨_, rfl⟩
  rw [← hQ]
  refine z_aload_n C dX2_go_0 rfl 0 rfl ?_
  refine z_iload_n C dX2_go_1 rfl 1 rfl ?_
  refine z_cV C (st' := []) (B' := [(shT t a ta, zZ), (shF a cI cZ, σ), (shF ta cI cZ, τ)]) [true, true, true] rfl (c_X2_needBoat l D cI cZ cB cE t a ta σ τ n hI b (by omega)) wq_yX2_needBoat wm_X2_30 ⟨wn_yX2_needBoat, wo_yX2_needBoat⟩ ⟨rfl, rfl, Nat.le_of_ble_eq_true rfl, Nat.le_of_ble_eq_true rfl⟩ 0 rfl 0 rfl rfl rfl rfl (Nat.le_of_ble_eq_true rfl) dX2_go_2 ⟨Nat.le_of_ble_eq_true rfl, Nat.le_of_ble_eq_true rfl⟩ rfl rfl ?_
  refine z_aload_n C dX2_go_5 rfl 0 rfl ?_
  refine z_iload_n C dX2_go_6 rfl 2 rfl ?_
  refine z_iconst C (v := nI (3)) (by decide) dX2_go_7 ?_
  refine z_cV C (st' := []) (B' := [(shT t a ta, zZ), (shF a cI cZ, σ), (shF ta cI cZ, τ)]) [true, true, true] rfl (c_X2_needBelow l D cI cZ cB cE t a ta σ τ n hI h 3 (by omega) (by omega)) wq_yX2_needBelow wm_X2_39 ⟨wn_yX2_needBelow, wo_yX2_needBelow⟩ ⟨rfl, rfl, Nat.le_of_ble_eq_true rfl, Nat.le_of_ble_eq_true rfl⟩ 0 rfl 0 rfl rfl rfl rfl (Nat.le_of_ble_eq_true rfl) dX2_go_8 ⟨Nat.le_of_ble_eq_true rfl, Nat.le_of_ble_eq_true rfl⟩ rfl rfl ?_
  refine z_aload_n C dX2_go_11 rfl 0 rfl ?_
  refine z_getR C wu_X2 0 rfl 0 rfl rfl 0 (by decide) rfl wf_X2_10 dX2_go_12 ?_
  refine z_getR C wu_X0 1 rfl 0 rfl rfl 10 (by decide) rfl wf_X2_43 dX2_go_15 ?_
  refine z_iload_n C dX2_go_18 rfl 1 rfl ?_
  refine z_iald C 1 rfl 6 0 rfl rfl dX2_go_19 (by omega) (by decide) ?_
  refine z_istore_n C (L' := [(3, .int (σ 6 (b))), (0, .ref (t)), (1, .int (nI (b))), (2, .int (nI (h)))]) dX2_go_20 rfl (by decide) rfl ?_
  refine z_aload_n C dX2_go_21 rfl 1 rfl ?_
  refine z_getR C wu_X2 0 rfl 0 rfl rfl 0 (by decide) rfl wf_X2_10 dX2_go_22 ?_
  refine z_getR C wu_X0 1 rfl 0 rfl rfl 10 (by decide) rfl wf_X2_43 dX2_go_25 ?_
  refine z_iload_n C dX2_go_28 rfl 2 rfl ?_
  refine z_iload_n C dX2_go_29 rfl 3 rfl ?_
  refine z_iast C (B' := [(shT t a ta, zZ), (shF a cI cZ, (zU σ 6 (b) (nI (h)))), (shF ta cI cZ, τ)]) 1 rfl 6 0 rfl rfl dX2_go_30 (by omega) (by decide) rfl ?_
  refine z_iload_n C dX2_go_31 rfl 0 rfl ?_
  rw [hQ]; exact z_iret C hr dX2_go_32 ⟨rfl, congrArg (fun x => [(shT t a ta, zZ), (shF a cI cZ, x), (shF ta cI cZ, τ)]) (by rfl)⟩
set_option maxHeartbeats 4000000 in
set_option maxRecDepth 100000 in
theorem c_X2_go_b1 (l : Launch) (hlt : l.stackTraces = false) (D : va_G) (cI cZ cB cE : ClassId) (t : Nat) (a ta : Nat → Nat) (σ τ : zF) (n : Nat) (hI : fl_Iv n σ) (x : Int32) (h : Int32) (hx : x < 0 ∨ nI n ≤ x) : zT l D (tyL cI cZ cB cE) yX2_go cX2_go 4 (some .int) ({ frames := 7, cells := 1, slots := 6, locals := 122 } : Room) [.ref (t), .int (x), .int (h)] [(shT t a ta, zZ), (shF a cI cZ, σ), (shF ta cI cZ, τ)] "java/lang/IndexOutOfBoundsException" := by
  have hn3 := hI.n3
  have hn7 := hI.n7
  refine z_ofT (by decide) (Nat.le_of_ble_eq_true rfl) rfl ?_
  intro p e s m args below meth c A C htab
  refine z_aload_n C dX2_go_0 rfl 0 rfl ?_
  refine z_iload_n C dX2_go_1 rfl 1 rfl ?_
  exact z_tV C htab [true, true, true] rfl rfl (c_X2_needBoat_bad l hlt D cI cZ cB cE t a ta σ τ n hI x hx) wq_yX2_needBoat wm_X2_30 ⟨wn_yX2_needBoat, wo_yX2_needBoat⟩ ⟨rfl, rfl, Nat.le_of_ble_eq_true rfl, Nat.le_of_ble_eq_true rfl⟩ 0 rfl 0 rfl rfl rfl rfl (Nat.le_of_ble_eq_true rfl) dX2_go_2 ⟨Nat.le_of_ble_eq_true rfl, Nat.le_of_ble_eq_true rfl⟩
set_option maxHeartbeats 4000000 in
set_option maxRecDepth 100000 in
theorem c_X2_go_b2 (l : Launch) (hlt : l.stackTraces = false) (D : va_G) (cI cZ cB cE : ClassId) (t : Nat) (a ta : Nat → Nat) (σ τ : zF) (n : Nat) (hI : fl_Iv n σ) (b : Nat) (x : Int32) (hb : b < n) (hx : x < 0 ∨ nI 3 ≤ x) : zT l D (tyL cI cZ cB cE) yX2_go cX2_go 4 (some .int) ({ frames := 7, cells := 1, slots := 6, locals := 122 } : Room) [.ref (t), .int (nI (b)), .int (x)] [(shT t a ta, zZ), (shF a cI cZ, σ), (shF ta cI cZ, τ)] "java/lang/IndexOutOfBoundsException" := by
  have hn3 := hI.n3
  have hn7 := hI.n7
  refine z_ofT (by decide) (Nat.le_of_ble_eq_true rfl) rfl ?_
  intro p e s m args below meth c A C htab
  refine z_aload_n C dX2_go_0 rfl 0 rfl ?_
  refine z_iload_n C dX2_go_1 rfl 1 rfl ?_
  refine z_cV C (st' := []) (B' := [(shT t a ta, zZ), (shF a cI cZ, σ), (shF ta cI cZ, τ)]) [true, true, true] rfl (c_X2_needBoat l D cI cZ cB cE t a ta σ τ n hI b (by omega)) wq_yX2_needBoat wm_X2_30 ⟨wn_yX2_needBoat, wo_yX2_needBoat⟩ ⟨rfl, rfl, Nat.le_of_ble_eq_true rfl, Nat.le_of_ble_eq_true rfl⟩ 0 rfl 0 rfl rfl rfl rfl (Nat.le_of_ble_eq_true rfl) dX2_go_2 ⟨Nat.le_of_ble_eq_true rfl, Nat.le_of_ble_eq_true rfl⟩ rfl rfl ?_
  refine z_aload_n C dX2_go_5 rfl 0 rfl ?_
  refine z_iload_n C dX2_go_6 rfl 2 rfl ?_
  refine z_iconst C (v := nI (3)) (by decide) dX2_go_7 ?_
  exact z_tV C htab [true, true, true] rfl rfl (c_X2_needBelow_bad l hlt D cI cZ cB cE t a ta σ τ n hI x 3 hx (by omega)) wq_yX2_needBelow wm_X2_39 ⟨wn_yX2_needBelow, wo_yX2_needBelow⟩ ⟨rfl, rfl, Nat.le_of_ble_eq_true rfl, Nat.le_of_ble_eq_true rfl⟩ 0 rfl 0 rfl rfl rfl rfl (Nat.le_of_ble_eq_true rfl) dX2_go_8 ⟨Nat.le_of_ble_eq_true rfl, Nat.le_of_ble_eq_true rfl⟩
set_option maxHeartbeats 4000000 in
set_option maxRecDepth 100000 in
theorem c_X2_sink (l : Launch) (D : va_G) (cI cZ cB cE : ClassId) (t : Nat) (a ta : Nat → Nat) (σ τ : zF) (n : Nat) (hI : fl_Iv n σ) (b : Nat) (hb : b < n) : zM l D (tyL cI cZ cB cE) yX2_sink cX2_sink 2 (some .boolean) (zR 7 121) [.ref (t), .int (nI (b))] [(shT t a ta, zZ), (shF a cI cZ, σ), (shF ta cI cZ, τ)] 0 0 (fun r u => r = some (.int (zb (decide (σ 7 b = 0)))) ∧ u = [(shT t a ta, zZ), (shF a cI cZ, (if σ 7 b = 0 then fl_raise σ b else zU σ 7 b (nI 0))), (shF ta cI cZ, τ)]) := by
  have hn3 := hI.n3
  have hn7 := hI.n7
  refine z_of (by decide) (Nat.le_of_ble_eq_true rfl) rfl ?_
  intro p e s m args below meth c A C hr hin
  obtain ⟨Q, hQ⟩ : ∃ Q, Q = MQ below (zQ (fun r u => r = some (.int (zb (decide (σ 7 b = 0)))) ∧ u = [(shT t a ta, zZ), (shF a cI cZ, (if σ 7 b = 0 then fl_raise σ b else zU σ 7 b (nI 0))), (shF ta cI cZ, τ)]) D (tyL cI cZ cB cE) A) args s 0 0 A := ⟨_, rfl⟩
  rw [← hQ]
  have hu := hI.u7
  refine z_aload_n C dX2_sink_0 rfl 0 rfl ?_
  refine z_iload_n C dX2_sink_1 rfl 1 rfl ?_
  refine z_cV C (st' := []) (B' := [(shT t a ta, zZ), (shF a cI cZ, σ), (shF ta cI cZ, τ)]) [true, true, true] rfl (c_X2_needBoat l D cI cZ cB cE t a ta σ τ n hI b (by omega)) wq_yX2_needBoat wm_X2_30 ⟨wn_yX2_needBoat, wo_yX2_needBoat⟩ ⟨rfl, rfl, Nat.le_of_ble_eq_true rfl, Nat.le_of_ble_eq_true rfl⟩ 0 rfl 0 rfl rfl rfl rfl (Nat.le_of_ble_eq_true rfl) dX2_sink_2 ⟨Nat.le_of_ble_eq_true rfl, Nat.le_of_ble_eq_true rfl⟩ rfl rfl ?_
  refine z_aload_n C dX2_sink_5 rfl 0 rfl ?_
  refine z_getR C wu_X2 0 rfl 0 rfl rfl 0 (by decide) rfl wf_X2_10 dX2_sink_6 ?_
  refine z_getR C wu_X0 1 rfl 0 rfl rfl 11 (by decide) rfl wf_X2_46 dX2_sink_9 ?_
  refine z_iload_n C dX2_sink_12 rfl 1 rfl ?_
  refine z_zald C 1 rfl 7 1 rfl rfl dX2_sink_13 (by omega) (by decide) ?_
  refine z_if_eq C (tgt := 30) dX2_sink_14 (by decide) (fun c_14 => ?_) (fun c_14 => ?_)
  · refine z_aload_n C dX2_sink_30 rfl 0 rfl ?_
    refine z_getR C wu_X2 0 rfl 0 rfl rfl 0 (by decide) rfl wf_X2_10 dX2_sink_31 ?_
    refine z_iload_n C dX2_sink_34 rfl 1 rfl ?_
    have hi_1 : fl_Iv n (fl_raise σ b) := fl_raise_Iv hI _
    refine z_cV C (st' := []) (B' := [(shT t a ta, zZ), (shF a cI cZ, (fl_raise σ b)), (shF ta cI cZ, τ)]) [false, true, false] rfl (c_X0_raise l D cI cZ cB cE a σ n hI b (by omega)) wq_yX0_raise wm_X2_50 ⟨wn_yX0_raise, wo_yX0_raise⟩ ⟨rfl, rfl, Nat.le_of_ble_eq_true rfl, Nat.le_of_ble_eq_true rfl⟩ 1 rfl 0 rfl rfl rfl rfl (Nat.le_of_ble_eq_true rfl) dX2_sink_35 ⟨Nat.le_of_ble_eq_true rfl, Nat.le_of_ble_eq_true rfl⟩ rfl rfl ?_
    refine z_aload_n C dX2_sink_38 rfl 0 rfl ?_
    refine z_getR C wu_X2 0 rfl 0 rfl rfl 0 (by decide) rfl wf_X2_10 dX2_sink_39 ?_
    refine z_getR C wu_X0 1 rfl 0 rfl rfl 11 (by decide) rfl wf_X2_46 dX2_sink_42 ?_
    refine z_iload_n C dX2_sink_45 rfl 1 rfl ?_
    refine z_zald C 1 rfl 7 1 rfl rfl dX2_sink_46 (by omega) (by decide) ?_
    refine z_top (y := nI (1)) (by unfold fl_raise; rw [zU_at, if_neg (fun q => absurd q.1 (by decide)), zU_at, if_neg (fun q => absurd q.1 (by decide)), zU_at, if_neg (fun q => absurd q.1 (by decide)), zU_self]) ?_
    rw [hQ]; exact z_zret C hr (by decide) dX2_sink_47 ⟨z_b1 (by simp [c_14]), congrArg (fun x => [(shT t a ta, zZ), (shF a cI cZ, x), (shF ta cI cZ, τ)]) (by rw [if_pos c_14])⟩
  · refine z_aload_n C dX2_sink_17 rfl 0 rfl ?_
    refine z_getR C wu_X2 0 rfl 0 rfl rfl 0 (by decide) rfl wf_X2_10 dX2_sink_18 ?_
    refine z_getR C wu_X0 1 rfl 0 rfl rfl 11 (by decide) rfl wf_X2_46 dX2_sink_21 ?_
    refine z_iload_n C dX2_sink_24 rfl 1 rfl ?_
    refine z_iconst C (v := nI (0)) (by decide) dX2_sink_25 ?_
    refine z_zast C (B' := [(shT t a ta, zZ), (shF a cI cZ, (zU σ 7 (b) (nI (0)))), (shF ta cI cZ, τ)]) 1 rfl 7 1 rfl rfl dX2_sink_26 (by omega) (by decide) (vp_0) rfl ?_
    refine z_goto C (tgt := 38) dX2_sink_27 (by decide) ?_
    refine z_aload_n C dX2_sink_38 rfl 0 rfl ?_
    refine z_getR C wu_X2 0 rfl 0 rfl rfl 0 (by decide) rfl wf_X2_10 dX2_sink_39 ?_
    refine z_getR C wu_X0 1 rfl 0 rfl rfl 11 (by decide) rfl wf_X2_46 dX2_sink_42 ?_
    refine z_iload_n C dX2_sink_45 rfl 1 rfl ?_
    refine z_zald C 1 rfl 7 1 rfl rfl dX2_sink_46 (by omega) (by decide) ?_
    refine z_top (y := nI (0)) (zU_self _ _ _ _) ?_
    rw [hQ]; exact z_zret C hr (by decide) dX2_sink_47 ⟨z_b0 (by simp [c_14]), congrArg (fun x => [(shT t a ta, zZ), (shF a cI cZ, x), (shF ta cI cZ, τ)]) (by rw [if_neg c_14])⟩
set_option maxHeartbeats 4000000 in
set_option maxRecDepth 100000 in
theorem c_X2_sink_b1 (l : Launch) (hlt : l.stackTraces = false) (D : va_G) (cI cZ cB cE : ClassId) (t : Nat) (a ta : Nat → Nat) (σ τ : zF) (n : Nat) (hI : fl_Iv n σ) (x : Int32) (hx : x < 0 ∨ nI n ≤ x) : zT l D (tyL cI cZ cB cE) yX2_sink cX2_sink 2 (some .boolean) ({ frames := 7, cells := 1, slots := 6, locals := 121 } : Room) [.ref (t), .int (x)] [(shT t a ta, zZ), (shF a cI cZ, σ), (shF ta cI cZ, τ)] "java/lang/IndexOutOfBoundsException" := by
  have hn3 := hI.n3
  have hn7 := hI.n7
  refine z_ofT (by decide) (Nat.le_of_ble_eq_true rfl) rfl ?_
  intro p e s m args below meth c A C htab
  refine z_aload_n C dX2_sink_0 rfl 0 rfl ?_
  refine z_iload_n C dX2_sink_1 rfl 1 rfl ?_
  exact z_tV C htab [true, true, true] rfl rfl (c_X2_needBoat_bad l hlt D cI cZ cB cE t a ta σ τ n hI x hx) wq_yX2_needBoat wm_X2_30 ⟨wn_yX2_needBoat, wo_yX2_needBoat⟩ ⟨rfl, rfl, Nat.le_of_ble_eq_true rfl, Nat.le_of_ble_eq_true rfl⟩ 0 rfl 0 rfl rfl rfl rfl (Nat.le_of_ble_eq_true rfl) dX2_sink_2 ⟨Nat.le_of_ble_eq_true rfl, Nat.le_of_ble_eq_true rfl⟩
set_option maxHeartbeats 4000000 in
set_option maxRecDepth 100000 in
theorem c_X2_write (l : Launch) (D : va_G) (cI cZ cB cE : ClassId) (t : Nat) (a ta : Nat → Nat) (σ τ : zF) (n : Nat) (hI : fl_Iv n σ) (b : Nat) (f : Nat) (hb : b < n) (hf : f ≤ 99) (hl : fl_lead σ b = true) (hk : fl_ln σ b < 10) : zM l D (tyL cI cZ cB cE) yX2_write cX2_write 3 (some .int) (zR 7 121) [.ref (t), .int (nI (b)), .int (nI (f))] [(shT t a ta, zZ), (shF a cI cZ, σ), (shF ta cI cZ, τ)] 0 0 (fun r u => r = some (.int (nI (fl_ln σ b))) ∧ u = [(shT t a ta, zZ), (shF a cI cZ, (fl_app σ b (σ 3 b) (nI f))), (shF ta cI cZ, τ)]) := by
  have hn3 := hI.n3
  have hn7 := hI.n7
  refine z_of (by decide) (Nat.le_of_ble_eq_true rfl) rfl ?_
  intro p e s m args below meth c A C hr hin
  obtain ⟨Q, hQ⟩ : ∃ Q, Q = MQ below (zQ (fun r u => r = some (.int (nI (fl_ln σ b))) ∧ u = [(shT t a ta, zZ), (shF a cI cZ, (fl_app σ b (σ 3 b) (nI f))), (shF ta cI cZ, τ)]) D (tyL cI cZ cB cE) A) args s 0 0 A := ⟨_, rfl⟩
  rw [← hQ]
  refine z_aload_n C dX2_write_0 rfl 0 rfl ?_
  refine z_iload_n C dX2_write_1 rfl 1 rfl ?_
  refine z_cV C (st' := []) (B' := [(shT t a ta, zZ), (shF a cI cZ, σ), (shF ta cI cZ, τ)]) [true, true, true] rfl (c_X2_needBoat l D cI cZ cB cE t a ta σ τ n hI b (by omega)) wq_yX2_needBoat wm_X2_30 ⟨wn_yX2_needBoat, wo_yX2_needBoat⟩ ⟨rfl, rfl, Nat.le_of_ble_eq_true rfl, Nat.le_of_ble_eq_true rfl⟩ 0 rfl 0 rfl rfl rfl rfl (Nat.le_of_ble_eq_true rfl) dX2_write_2 ⟨Nat.le_of_ble_eq_true rfl, Nat.le_of_ble_eq_true rfl⟩ rfl rfl ?_
  refine z_iload_n C dX2_write_5 rfl 2 rfl ?_
  refine z_if_ltN C (tgt := 15) dX2_write_6 (by decide) (by omega) ?_
  refine z_iload_n C dX2_write_9 rfl 2 rfl ?_
  refine z_bipush C (v := nI (99)) (by decide) dX2_write_10 ?_
  refine z_icmp_leN C (tgt := 25) dX2_write_12 (by decide) (by omega) (by omega) (fun c_12 => ?_) (fun c_12 => ?_)
  · refine z_aload_n C dX2_write_25 rfl 0 rfl ?_
    refine z_getR C wu_X2 0 rfl 0 rfl rfl 0 (by decide) rfl wf_X2_10 dX2_write_26 ?_
    refine z_iload_n C dX2_write_29 rfl 1 rfl ?_
    refine z_cV C (st' := [.int (zb (fl_lead σ b))]) (B' := [(shT t a ta, zZ), (shF a cI cZ, σ), (shF ta cI cZ, τ)]) [false, true, false] rfl (c_X0_leadsNow l D cI cZ cB cE a σ n hI b (by omega)) wq_yX0_leadsNow wm_X2_55 ⟨wn_yX0_leadsNow, wo_yX0_leadsNow⟩ ⟨rfl, rfl, Nat.le_of_ble_eq_true rfl, Nat.le_of_ble_eq_true rfl⟩ 1 rfl 0 rfl rfl rfl rfl (Nat.le_of_ble_eq_true rfl) dX2_write_30 ⟨Nat.le_of_ble_eq_true rfl, Nat.le_of_ble_eq_true rfl⟩ rfl rfl ?_
    refine z_if_neB C (tgt := 46) dX2_write_33 (by decide) (fun c_33 => ?_) (fun c_33 => ?_)
    · refine z_aload_n C dX2_write_46 rfl 0 rfl ?_
      refine z_getR C wu_X2 0 rfl 0 rfl rfl 0 (by decide) rfl wf_X2_10 dX2_write_47 ?_
      refine z_getR C wu_X0 1 rfl 0 rfl rfl 12 (by decide) rfl wf_X2_64 dX2_write_50 ?_
      refine z_getR C wu_X1 1 rfl 12 rfl rfl 0 (by decide) rfl wf_X2_68 dX2_write_53 ?_
      refine z_iload_n C dX2_write_56 rfl 1 rfl ?_
      refine z_iald C 1 rfl 8 0 rfl rfl dX2_write_57 (by omega) (by decide) ?_
      refine z_top (y := nI (fl_ln σ b)) (hI.ln (by omega)) ?_
      have hb_1 := hI.lnT (i := b) (by omega)
      refine z_bipush C (v := nI (10)) (by decide) dX2_write_58 ?_
      refine z_icmp_ltN C (tgt := 73) dX2_write_60 (by decide) (by omega) (by omega) (fun c_60 => ?_) (fun c_60 => ?_)
      · refine z_aload_n C dX2_write_73 rfl 0 rfl ?_
        refine z_getR C wu_X2 0 rfl 0 rfl rfl 0 (by decide) rfl wf_X2_10 dX2_write_74 ?_
        refine z_getR C wu_X0 1 rfl 0 rfl rfl 12 (by decide) rfl wf_X2_64 dX2_write_77 ?_
        refine z_iload_n C dX2_write_80 rfl 1 rfl ?_
        refine z_aload_n C dX2_write_81 rfl 0 rfl ?_
        refine z_getR C wu_X2 0 rfl 0 rfl rfl 0 (by decide) rfl wf_X2_10 dX2_write_82 ?_
        refine z_getR C wu_X0 1 rfl 0 rfl rfl 7 (by decide) rfl wf_X2_75 dX2_write_85 ?_
        refine z_iload_n C dX2_write_88 rfl 1 rfl ?_
        refine z_iald C 1 rfl 3 0 rfl rfl dX2_write_89 (by omega) (by decide) ?_
        refine z_iload_n C dX2_write_90 rfl 2 rfl ?_
        have hi_2 : fl_Iv n (fl_app σ b (σ 3 (b)) (nI (f))) := (((hI.U 10 _ _ (by decide) (by decide) (by decide) (by decide)).U 11 _ _ (by decide) (by decide) (by decide) (by decide)).U8 _ _ (by omega))
        refine z_cV C (st' := []) (B' := [(shT t a ta, zZ), (shF a cI cZ, (fl_app σ b (σ 3 (b)) (nI (f)))), (shF ta cI cZ, τ)]) [false, true, false] rfl (c_X1_append l D cI cZ cB cE a σ n hI b (σ 3 (b)) (nI (f)) (by omega) (by omega)) wq_yX1_append wm_X2_78 ⟨wn_yX1_append, wo_yX1_append⟩ ⟨rfl, rfl, Nat.le_of_ble_eq_true rfl, Nat.le_of_ble_eq_true rfl⟩ 1 rfl 12 rfl rfl rfl rfl (Nat.le_of_ble_eq_true rfl) dX2_write_91 ⟨Nat.le_of_ble_eq_true rfl, Nat.le_of_ble_eq_true rfl⟩ rfl rfl ?_
        have hln := fl_app_ln (σ := σ) (b := b) (σ 3 b) (nI f) (by omega)
        refine z_aload_n C dX2_write_94 rfl 0 rfl ?_
        refine z_getR C wu_X2 0 rfl 0 rfl rfl 0 (by decide) rfl wf_X2_10 dX2_write_95 ?_
        refine z_getR C wu_X0 1 rfl 0 rfl rfl 12 (by decide) rfl wf_X2_64 dX2_write_98 ?_
        refine z_getR C wu_X1 1 rfl 12 rfl rfl 0 (by decide) rfl wf_X2_68 dX2_write_101 ?_
        refine z_iload_n C dX2_write_104 rfl 1 rfl ?_
        refine z_iald C 1 rfl 8 0 rfl rfl dX2_write_105 (by omega) (by decide) ?_
        refine z_top (y := nI (fl_ln ((fl_app σ b (σ 3 (b)) (nI (f)))) b)) (hi_2.ln (by omega)) ?_
        have hb_3 := hi_2.lnT (i := b) (by omega)
        refine z_iconst C (v := nI (1)) (by decide) dX2_write_106 ?_
        refine z_isubN C dX2_write_107 (by omega) ?_
        rw [hQ]; exact z_iret C hr dX2_write_108 ⟨congrArg (fun x => some (Value.int x)) (by exact congrArg nI (by rw [hln]; omega)), congrArg (fun x => [(shT t a ta, zZ), (shF a cI cZ, x), (shF ta cI cZ, τ)]) (by rfl)⟩
      · exact absurd c_60 (by omega)
    · exact absurd hl (by rw [c_33]; decide)
  · exact absurd c_12 (by omega)
set_option maxHeartbeats 4000000 in
set_option maxRecDepth 100000 in
theorem c_X2_write_b1 (l : Launch) (hlt : l.stackTraces = false) (D : va_G) (cI cZ cB cE : ClassId) (t : Nat) (a ta : Nat → Nat) (σ τ : zF) (n : Nat) (hI : fl_Iv n σ) (x : Int32) (f : Int32) (hx : x < 0 ∨ nI n ≤ x) : zT l D (tyL cI cZ cB cE) yX2_write cX2_write 3 (some .int) ({ frames := 7, cells := 1, slots := 6, locals := 121 } : Room) [.ref (t), .int (x), .int (f)] [(shT t a ta, zZ), (shF a cI cZ, σ), (shF ta cI cZ, τ)] "java/lang/IndexOutOfBoundsException" := by
  have hn3 := hI.n3
  have hn7 := hI.n7
  refine z_ofT (by decide) (Nat.le_of_ble_eq_true rfl) rfl ?_
  intro p e s m args below meth c A C htab
  refine z_aload_n C dX2_write_0 rfl 0 rfl ?_
  refine z_iload_n C dX2_write_1 rfl 1 rfl ?_
  exact z_tV C htab [true, true, true] rfl rfl (c_X2_needBoat_bad l hlt D cI cZ cB cE t a ta σ τ n hI x hx) wq_yX2_needBoat wm_X2_30 ⟨wn_yX2_needBoat, wo_yX2_needBoat⟩ ⟨rfl, rfl, Nat.le_of_ble_eq_true rfl, Nat.le_of_ble_eq_true rfl⟩ 0 rfl 0 rfl rfl rfl rfl (Nat.le_of_ble_eq_true rfl) dX2_write_2 ⟨Nat.le_of_ble_eq_true rfl, Nat.le_of_ble_eq_true rfl⟩
set_option maxHeartbeats 4000000 in
set_option maxRecDepth 100000 in
theorem c_X2_write_b2 (l : Launch) (hlt : l.stackTraces = false) (D : va_G) (cI cZ cB cE : ClassId) (t : Nat) (a ta : Nat → Nat) (σ τ : zF) (n : Nat) (hI : fl_Iv n σ) (b : Nat) (x : Int32) (hb : b < n) (hx : x < 0 ∨ nI 99 < x) : zT l D (tyL cI cZ cB cE) yX2_write cX2_write 3 (some .int) ({ frames := 7, cells := 1, slots := 6, locals := 121 } : Room) [.ref (t), .int (nI (b)), .int (x)] [(shT t a ta, zZ), (shF a cI cZ, σ), (shF ta cI cZ, τ)] "java/lang/IllegalArgumentException" := by
  have hn3 := hI.n3
  have hn7 := hI.n7
  refine z_ofT (by decide) (Nat.le_of_ble_eq_true rfl) rfl ?_
  intro p e s m args below meth c A C htab
  refine z_aload_n C dX2_write_0 rfl 0 rfl ?_
  refine z_iload_n C dX2_write_1 rfl 1 rfl ?_
  refine z_cV C (st' := []) (B' := [(shT t a ta, zZ), (shF a cI cZ, σ), (shF ta cI cZ, τ)]) [true, true, true] rfl (c_X2_needBoat l D cI cZ cB cE t a ta σ τ n hI b (by omega)) wq_yX2_needBoat wm_X2_30 ⟨wn_yX2_needBoat, wo_yX2_needBoat⟩ ⟨rfl, rfl, Nat.le_of_ble_eq_true rfl, Nat.le_of_ble_eq_true rfl⟩ 0 rfl 0 rfl rfl rfl rfl (Nat.le_of_ble_eq_true rfl) dX2_write_2 ⟨Nat.le_of_ble_eq_true rfl, Nat.le_of_ble_eq_true rfl⟩ rfl rfl ?_
  refine z_iload_n C dX2_write_5 rfl 2 rfl ?_
  refine z_if_lt C (tgt := 15) dX2_write_6 (by decide) (fun c_6 => ?_) (fun c_6 => ?_)
  · exact z_throwS C hlt htab zt_IAE_27 (by decide : (RX2, 53, "fish is not 0 to 99") ∈ zSt) dX2_write_15 dX2_write_18 dX2_write_19 dX2_write_21 dX2_write_24 ⟨Nat.le_of_ble_eq_true rfl, Nat.le_of_ble_eq_true rfl, Nat.le_of_ble_eq_true rfl, Nat.le_of_ble_eq_true rfl⟩
  · refine z_iload_n C dX2_write_9 rfl 2 rfl ?_
    refine z_bipush C (v := nI (99)) (by decide) dX2_write_10 ?_
    refine z_icmp_le C (tgt := 25) dX2_write_12 (by decide) (fun c_12 => ?_) (fun c_12 => ?_)
    · exact (hx.elim c_6 (fun q => Int32.not_lt.mpr c_12 q)).elim
    · exact z_throwS C hlt htab zt_IAE_27 (by decide : (RX2, 53, "fish is not 0 to 99") ∈ zSt) dX2_write_15 dX2_write_18 dX2_write_19 dX2_write_21 dX2_write_24 ⟨Nat.le_of_ble_eq_true rfl, Nat.le_of_ble_eq_true rfl, Nat.le_of_ble_eq_true rfl, Nat.le_of_ble_eq_true rfl⟩
set_option maxHeartbeats 4000000 in
set_option maxRecDepth 100000 in
theorem c_X2_write_b3 (l : Launch) (hlt : l.stackTraces = false) (D : va_G) (cI cZ cB cE : ClassId) (t : Nat) (a ta : Nat → Nat) (σ τ : zF) (n : Nat) (hI : fl_Iv n σ) (b : Nat) (f : Nat) (hb : b < n) (hf : f ≤ 99) (hl : fl_lead σ b = false) : zT l D (tyL cI cZ cB cE) yX2_write cX2_write 3 (some .int) ({ frames := 7, cells := 1, slots := 6, locals := 121 } : Room) [.ref (t), .int (nI (b)), .int (nI (f))] [(shT t a ta, zZ), (shF a cI cZ, σ), (shF ta cI cZ, τ)] "java/lang/IllegalStateException" := by
  have hn3 := hI.n3
  have hn7 := hI.n7
  refine z_ofT (by decide) (Nat.le_of_ble_eq_true rfl) rfl ?_
  intro p e s m args below meth c A C htab
  refine z_aload_n C dX2_write_0 rfl 0 rfl ?_
  refine z_iload_n C dX2_write_1 rfl 1 rfl ?_
  refine z_cV C (st' := []) (B' := [(shT t a ta, zZ), (shF a cI cZ, σ), (shF ta cI cZ, τ)]) [true, true, true] rfl (c_X2_needBoat l D cI cZ cB cE t a ta σ τ n hI b (by omega)) wq_yX2_needBoat wm_X2_30 ⟨wn_yX2_needBoat, wo_yX2_needBoat⟩ ⟨rfl, rfl, Nat.le_of_ble_eq_true rfl, Nat.le_of_ble_eq_true rfl⟩ 0 rfl 0 rfl rfl rfl rfl (Nat.le_of_ble_eq_true rfl) dX2_write_2 ⟨Nat.le_of_ble_eq_true rfl, Nat.le_of_ble_eq_true rfl⟩ rfl rfl ?_
  refine z_iload_n C dX2_write_5 rfl 2 rfl ?_
  refine z_if_ltN C (tgt := 15) dX2_write_6 (by decide) (by omega) ?_
  refine z_iload_n C dX2_write_9 rfl 2 rfl ?_
  refine z_bipush C (v := nI (99)) (by decide) dX2_write_10 ?_
  refine z_icmp_leN C (tgt := 25) dX2_write_12 (by decide) (by omega) (by omega) (fun c_12 => ?_) (fun c_12 => ?_)
  · refine z_aload_n C dX2_write_25 rfl 0 rfl ?_
    refine z_getR C wu_X2 0 rfl 0 rfl rfl 0 (by decide) rfl wf_X2_10 dX2_write_26 ?_
    refine z_iload_n C dX2_write_29 rfl 1 rfl ?_
    refine z_cV C (st' := [.int (zb (fl_lead σ b))]) (B' := [(shT t a ta, zZ), (shF a cI cZ, σ), (shF ta cI cZ, τ)]) [false, true, false] rfl (c_X0_leadsNow l D cI cZ cB cE a σ n hI b (by omega)) wq_yX0_leadsNow wm_X2_55 ⟨wn_yX0_leadsNow, wo_yX0_leadsNow⟩ ⟨rfl, rfl, Nat.le_of_ble_eq_true rfl, Nat.le_of_ble_eq_true rfl⟩ 1 rfl 0 rfl rfl rfl rfl (Nat.le_of_ble_eq_true rfl) dX2_write_30 ⟨Nat.le_of_ble_eq_true rfl, Nat.le_of_ble_eq_true rfl⟩ rfl rfl ?_
    refine z_if_neB C (tgt := 46) dX2_write_33 (by decide) (fun c_33 => ?_) (fun c_33 => ?_)
    · exact absurd hl (by rw [c_33]; decide)
    · exact z_throwS C hlt htab zt_ISE_63 (by decide : (RX2, 61, "the boat is sunk, or does not lead") ∈ zSt) dX2_write_36 dX2_write_39 dX2_write_40 dX2_write_42 dX2_write_45 ⟨Nat.le_of_ble_eq_true rfl, Nat.le_of_ble_eq_true rfl, Nat.le_of_ble_eq_true rfl, Nat.le_of_ble_eq_true rfl⟩
  · exact absurd c_12 (by omega)
set_option maxHeartbeats 4000000 in
set_option maxRecDepth 100000 in
theorem c_X2_write_b4 (l : Launch) (hlt : l.stackTraces = false) (D : va_G) (cI cZ cB cE : ClassId) (t : Nat) (a ta : Nat → Nat) (σ τ : zF) (n : Nat) (hI : fl_Iv n σ) (b : Nat) (f : Nat) (hb : b < n) (hf : f ≤ 99) (hl : fl_lead σ b = true) (hk : 10 ≤ fl_ln σ b) : zT l D (tyL cI cZ cB cE) yX2_write cX2_write 3 (some .int) ({ frames := 7, cells := 1, slots := 6, locals := 121 } : Room) [.ref (t), .int (nI (b)), .int (nI (f))] [(shT t a ta, zZ), (shF a cI cZ, σ), (shF ta cI cZ, τ)] "java/lang/IllegalStateException" := by
  have hn3 := hI.n3
  have hn7 := hI.n7
  refine z_ofT (by decide) (Nat.le_of_ble_eq_true rfl) rfl ?_
  intro p e s m args below meth c A C htab
  refine z_aload_n C dX2_write_0 rfl 0 rfl ?_
  refine z_iload_n C dX2_write_1 rfl 1 rfl ?_
  refine z_cV C (st' := []) (B' := [(shT t a ta, zZ), (shF a cI cZ, σ), (shF ta cI cZ, τ)]) [true, true, true] rfl (c_X2_needBoat l D cI cZ cB cE t a ta σ τ n hI b (by omega)) wq_yX2_needBoat wm_X2_30 ⟨wn_yX2_needBoat, wo_yX2_needBoat⟩ ⟨rfl, rfl, Nat.le_of_ble_eq_true rfl, Nat.le_of_ble_eq_true rfl⟩ 0 rfl 0 rfl rfl rfl rfl (Nat.le_of_ble_eq_true rfl) dX2_write_2 ⟨Nat.le_of_ble_eq_true rfl, Nat.le_of_ble_eq_true rfl⟩ rfl rfl ?_
  refine z_iload_n C dX2_write_5 rfl 2 rfl ?_
  refine z_if_ltN C (tgt := 15) dX2_write_6 (by decide) (by omega) ?_
  refine z_iload_n C dX2_write_9 rfl 2 rfl ?_
  refine z_bipush C (v := nI (99)) (by decide) dX2_write_10 ?_
  refine z_icmp_leN C (tgt := 25) dX2_write_12 (by decide) (by omega) (by omega) (fun c_12 => ?_) (fun c_12 => ?_)
  · refine z_aload_n C dX2_write_25 rfl 0 rfl ?_
    refine z_getR C wu_X2 0 rfl 0 rfl rfl 0 (by decide) rfl wf_X2_10 dX2_write_26 ?_
    refine z_iload_n C dX2_write_29 rfl 1 rfl ?_
    refine z_cV C (st' := [.int (zb (fl_lead σ b))]) (B' := [(shT t a ta, zZ), (shF a cI cZ, σ), (shF ta cI cZ, τ)]) [false, true, false] rfl (c_X0_leadsNow l D cI cZ cB cE a σ n hI b (by omega)) wq_yX0_leadsNow wm_X2_55 ⟨wn_yX0_leadsNow, wo_yX0_leadsNow⟩ ⟨rfl, rfl, Nat.le_of_ble_eq_true rfl, Nat.le_of_ble_eq_true rfl⟩ 1 rfl 0 rfl rfl rfl rfl (Nat.le_of_ble_eq_true rfl) dX2_write_30 ⟨Nat.le_of_ble_eq_true rfl, Nat.le_of_ble_eq_true rfl⟩ rfl rfl ?_
    refine z_if_neB C (tgt := 46) dX2_write_33 (by decide) (fun c_33 => ?_) (fun c_33 => ?_)
    · refine z_aload_n C dX2_write_46 rfl 0 rfl ?_
      refine z_getR C wu_X2 0 rfl 0 rfl rfl 0 (by decide) rfl wf_X2_10 dX2_write_47 ?_
      refine z_getR C wu_X0 1 rfl 0 rfl rfl 12 (by decide) rfl wf_X2_64 dX2_write_50 ?_
      refine z_getR C wu_X1 1 rfl 12 rfl rfl 0 (by decide) rfl wf_X2_68 dX2_write_53 ?_
      refine z_iload_n C dX2_write_56 rfl 1 rfl ?_
      refine z_iald C 1 rfl 8 0 rfl rfl dX2_write_57 (by omega) (by decide) ?_
      refine z_top (y := nI (fl_ln σ b)) (hI.ln (by omega)) ?_
      have hb_1 := hI.lnT (i := b) (by omega)
      refine z_bipush C (v := nI (10)) (by decide) dX2_write_58 ?_
      refine z_icmp_ltN C (tgt := 73) dX2_write_60 (by decide) (by omega) (by omega) (fun c_60 => ?_) (fun c_60 => ?_)
      · exact absurd c_60 (by omega)
      · exact z_throwS C hlt htab zt_ISE_63 (by decide : (RX2, 73, "the log has 10 entries") ∈ zSt) dX2_write_63 dX2_write_66 dX2_write_67 dX2_write_69 dX2_write_72 ⟨Nat.le_of_ble_eq_true rfl, Nat.le_of_ble_eq_true rfl, Nat.le_of_ble_eq_true rfl, Nat.le_of_ble_eq_true rfl⟩
    · exact absurd hl (by rw [c_33]; decide)
  · exact absurd c_12 (by omega)
set_option maxHeartbeats 4000000 in
set_option maxRecDepth 100000 in
theorem c_X2_pass (l : Launch) (D : va_G) (cI cZ cB cE : ClassId) (t : Nat) (a ta : Nat → Nat) (σ τ : zF) (n : Nat) (hI : fl_Iv n σ) (h : Nat) (h1 : 1 ≤ h) (h50 : h ≤ 50) : zM l D (tyL cI cZ cB cE) yX2_pass cX2_pass 3 (some .int) (zR 7 157) [.ref (t), .int (nI (h))] [(shT t a ta, zZ), (shF a cI cZ, σ), (shF ta cI cZ, τ)] 0 0 (fun r u => r = some (.int ((fl_hours n h σ) 0 (3) - σ 0 (3))) ∧ u = [(shT t a ta, zZ), (shF a cI cZ, (fl_hours n h σ)), (shF ta cI cZ, τ)]) := by
  have hn3 := hI.n3
  have hn7 := hI.n7
  refine z_of (by decide) (Nat.le_of_ble_eq_true rfl) rfl ?_
  intro p e s m args below meth c A C hr hin
  obtain ⟨Q, hQ⟩ : ∃ Q, Q = MQ below (zQ (fun r u => r = some (.int ((fl_hours n h σ) 0 (3) - σ 0 (3))) ∧ u = [(shT t a ta, zZ), (shF a cI cZ, (fl_hours n h σ)), (shF ta cI cZ, τ)]) D (tyL cI cZ cB cE) A) args s 0 0 A := ⟨_, rfl⟩
  rw [← hQ]
  refine z_aload_n C dX2_pass_0 rfl 0 rfl ?_
  refine z_iload_n C dX2_pass_1 rfl 1 rfl ?_
  refine z_bipush C (v := nI (50)) (by decide) dX2_pass_2 ?_
  refine z_cV C (st' := []) (B' := [(shT t a ta, zZ), (shF a cI cZ, σ), (shF ta cI cZ, τ)]) [true, true, true] rfl (c_X2_needHours l D cI cZ cB cE t a ta σ τ n hI h 50 (by omega) (by omega)) wq_yX2_needHours wm_X2_82 ⟨wn_yX2_needHours, wo_yX2_needHours⟩ ⟨rfl, rfl, Nat.le_of_ble_eq_true rfl, Nat.le_of_ble_eq_true rfl⟩ 0 rfl 0 rfl rfl rfl rfl (Nat.le_of_ble_eq_true rfl) dX2_pass_4 ⟨Nat.le_of_ble_eq_true rfl, Nat.le_of_ble_eq_true rfl⟩ rfl rfl ?_
  refine z_aload_n C dX2_pass_7 rfl 0 rfl ?_
  refine z_getR C wu_X2 0 rfl 0 rfl rfl 0 (by decide) rfl wf_X2_10 dX2_pass_8 ?_
  refine z_getI C wu_X0 1 rfl 0 rfl rfl 3 (by decide) rfl wf_X2_85 dX2_pass_11 ?_
  refine z_istore_n C (L' := [(2, .int (σ 0 (3))), (0, .ref (t)), (1, .int (nI (h)))]) dX2_pass_14 rfl (by decide) rfl ?_
  refine z_aload_n C dX2_pass_15 rfl 1 rfl ?_
  refine z_getR C wu_X2 0 rfl 0 rfl rfl 0 (by decide) rfl wf_X2_10 dX2_pass_16 ?_
  refine z_iload_n C dX2_pass_19 rfl 2 rfl ?_
  have hi_1 : fl_Iv n (fl_hours n h σ) := fl_hours_Iv hI _
  refine z_cV C (st' := []) (B' := [(shT t a ta, zZ), (shF a cI cZ, (fl_hours n h σ)), (shF ta cI cZ, τ)]) [false, true, false] rfl (c_X0_passHours l D cI cZ cB cE a σ n hI h (by omega)) wq_yX0_passHours wm_X2_89 ⟨wn_yX0_passHours, wo_yX0_passHours⟩ ⟨rfl, rfl, Nat.le_of_ble_eq_true rfl, Nat.le_of_ble_eq_true rfl⟩ 1 rfl 0 rfl rfl rfl rfl (Nat.le_of_ble_eq_true rfl) dX2_pass_20 ⟨Nat.le_of_ble_eq_true rfl, Nat.le_of_ble_eq_true rfl⟩ rfl rfl ?_
  refine z_aload_n C dX2_pass_23 rfl 1 rfl ?_
  refine z_getR C wu_X2 0 rfl 0 rfl rfl 0 (by decide) rfl wf_X2_10 dX2_pass_24 ?_
  refine z_getI C wu_X0 1 rfl 0 rfl rfl 3 (by decide) rfl wf_X2_85 dX2_pass_27 ?_
  refine z_iload_n C dX2_pass_30 rfl 0 rfl ?_
  refine z_isub C dX2_pass_31 ?_
  rw [hQ]; exact z_iret C hr dX2_pass_32 ⟨rfl, rfl⟩
set_option maxHeartbeats 4000000 in
set_option maxRecDepth 100000 in
theorem c_X2_pass_b1 (l : Launch) (hlt : l.stackTraces = false) (D : va_G) (cI cZ cB cE : ClassId) (t : Nat) (a ta : Nat → Nat) (σ τ : zF) (n : Nat) (hI : fl_Iv n σ) (x : Int32) (hx : x < nI 1 ∨ nI 50 < x) : zT l D (tyL cI cZ cB cE) yX2_pass cX2_pass 3 (some .int) ({ frames := 7, cells := 1, slots := 6, locals := 157 } : Room) [.ref (t), .int (x)] [(shT t a ta, zZ), (shF a cI cZ, σ), (shF ta cI cZ, τ)] "java/lang/IllegalArgumentException" := by
  have hn3 := hI.n3
  have hn7 := hI.n7
  refine z_ofT (by decide) (Nat.le_of_ble_eq_true rfl) rfl ?_
  intro p e s m args below meth c A C htab
  refine z_aload_n C dX2_pass_0 rfl 0 rfl ?_
  refine z_iload_n C dX2_pass_1 rfl 1 rfl ?_
  refine z_bipush C (v := nI (50)) (by decide) dX2_pass_2 ?_
  exact z_tV C htab [true, true, true] rfl rfl (c_X2_needHours_bad l hlt D cI cZ cB cE t a ta σ τ n hI x 50 hx (by omega)) wq_yX2_needHours wm_X2_82 ⟨wn_yX2_needHours, wo_yX2_needHours⟩ ⟨rfl, rfl, Nat.le_of_ble_eq_true rfl, Nat.le_of_ble_eq_true rfl⟩ 0 rfl 0 rfl rfl rfl rfl (Nat.le_of_ble_eq_true rfl) dX2_pass_4 ⟨Nat.le_of_ble_eq_true rfl, Nat.le_of_ble_eq_true rfl⟩
set_option maxHeartbeats 4000000 in
set_option maxRecDepth 100000 in
theorem c_X2_told (l : Launch) (D : va_G) (cI cZ cB cE : ClassId) (t : Nat) (a ta : Nat → Nat) (σ τ : zF) (n : Nat) (hI : fl_Iv n σ) (b : Nat) (w : Nat) (hb : b < n) (hw : w < 10) : zM l D (tyL cI cZ cB cE) yX2_told cX2_told 3 (some .int) (zR 7 122) [.ref (t), .int (nI (b)), .int (nI (w))] [(shT t a ta, zZ), (shF a cI cZ, σ), (shF ta cI cZ, τ)] 0 0 (fun r u => r = some (.int (fl_ofB σ b w)) ∧ u = [(shT t a ta, zZ), (shF a cI cZ, σ), (shF ta cI cZ, τ)]) := by
  have hn3 := hI.n3
  have hn7 := hI.n7
  refine z_of (by decide) (Nat.le_of_ble_eq_true rfl) rfl ?_
  intro p e s m args below meth c A C hr hin
  obtain ⟨Q, hQ⟩ : ∃ Q, Q = MQ below (zQ (fun r u => r = some (.int (fl_ofB σ b w)) ∧ u = [(shT t a ta, zZ), (shF a cI cZ, σ), (shF ta cI cZ, τ)]) D (tyL cI cZ cB cE) A) args s 0 0 A := ⟨_, rfl⟩
  rw [← hQ]
  refine z_aload_n C dX2_told_0 rfl 0 rfl ?_
  refine z_iload_n C dX2_told_1 rfl 1 rfl ?_
  refine z_cV C (st' := []) (B' := [(shT t a ta, zZ), (shF a cI cZ, σ), (shF ta cI cZ, τ)]) [true, true, true] rfl (c_X2_needBoat l D cI cZ cB cE t a ta σ τ n hI b (by omega)) wq_yX2_needBoat wm_X2_30 ⟨wn_yX2_needBoat, wo_yX2_needBoat⟩ ⟨rfl, rfl, Nat.le_of_ble_eq_true rfl, Nat.le_of_ble_eq_true rfl⟩ 0 rfl 0 rfl rfl rfl rfl (Nat.le_of_ble_eq_true rfl) dX2_told_2 ⟨Nat.le_of_ble_eq_true rfl, Nat.le_of_ble_eq_true rfl⟩ rfl rfl ?_
  refine z_aload_n C dX2_told_5 rfl 0 rfl ?_
  refine z_iload_n C dX2_told_6 rfl 2 rfl ?_
  refine z_bipush C (v := nI (10)) (by decide) dX2_told_7 ?_
  refine z_cV C (st' := []) (B' := [(shT t a ta, zZ), (shF a cI cZ, σ), (shF ta cI cZ, τ)]) [true, true, true] rfl (c_X2_needBelow l D cI cZ cB cE t a ta σ τ n hI w 10 (by omega) (by omega)) wq_yX2_needBelow wm_X2_39 ⟨wn_yX2_needBelow, wo_yX2_needBelow⟩ ⟨rfl, rfl, Nat.le_of_ble_eq_true rfl, Nat.le_of_ble_eq_true rfl⟩ 0 rfl 0 rfl rfl rfl rfl (Nat.le_of_ble_eq_true rfl) dX2_told_9 ⟨Nat.le_of_ble_eq_true rfl, Nat.le_of_ble_eq_true rfl⟩ rfl rfl ?_
  refine z_aload_n C dX2_told_12 rfl 0 rfl ?_
  refine z_getR C wu_X2 0 rfl 0 rfl rfl 0 (by decide) rfl wf_X2_10 dX2_told_13 ?_
  refine z_iload_n C dX2_told_16 rfl 1 rfl ?_
  refine z_iload_n C dX2_told_17 rfl 2 rfl ?_
  refine z_cV C (st' := [.int (fl_ofB σ b w)]) (B' := [(shT t a ta, zZ), (shF a cI cZ, σ), (shF ta cI cZ, τ)]) [false, true, false] rfl (c_X0_ofBoat l D cI cZ cB cE a σ n hI b w (by omega) (by omega)) wq_yX0_ofBoat wm_X2_92 ⟨wn_yX0_ofBoat, wo_yX0_ofBoat⟩ ⟨rfl, rfl, Nat.le_of_ble_eq_true rfl, Nat.le_of_ble_eq_true rfl⟩ 1 rfl 0 rfl rfl rfl rfl (Nat.le_of_ble_eq_true rfl) dX2_told_18 ⟨Nat.le_of_ble_eq_true rfl, Nat.le_of_ble_eq_true rfl⟩ rfl rfl ?_
  rw [hQ]; exact z_iret C hr dX2_told_21 ⟨rfl, rfl⟩
set_option maxHeartbeats 4000000 in
set_option maxRecDepth 100000 in
theorem c_X2_told_b1 (l : Launch) (hlt : l.stackTraces = false) (D : va_G) (cI cZ cB cE : ClassId) (t : Nat) (a ta : Nat → Nat) (σ τ : zF) (n : Nat) (hI : fl_Iv n σ) (x : Int32) (w : Int32) (hx : x < 0 ∨ nI n ≤ x) : zT l D (tyL cI cZ cB cE) yX2_told cX2_told 3 (some .int) ({ frames := 7, cells := 1, slots := 6, locals := 122 } : Room) [.ref (t), .int (x), .int (w)] [(shT t a ta, zZ), (shF a cI cZ, σ), (shF ta cI cZ, τ)] "java/lang/IndexOutOfBoundsException" := by
  have hn3 := hI.n3
  have hn7 := hI.n7
  refine z_ofT (by decide) (Nat.le_of_ble_eq_true rfl) rfl ?_
  intro p e s m args below meth c A C htab
  refine z_aload_n C dX2_told_0 rfl 0 rfl ?_
  refine z_iload_n C dX2_told_1 rfl 1 rfl ?_
  exact z_tV C htab [true, true, true] rfl rfl (c_X2_needBoat_bad l hlt D cI cZ cB cE t a ta σ τ n hI x hx) wq_yX2_needBoat wm_X2_30 ⟨wn_yX2_needBoat, wo_yX2_needBoat⟩ ⟨rfl, rfl, Nat.le_of_ble_eq_true rfl, Nat.le_of_ble_eq_true rfl⟩ 0 rfl 0 rfl rfl rfl rfl (Nat.le_of_ble_eq_true rfl) dX2_told_2 ⟨Nat.le_of_ble_eq_true rfl, Nat.le_of_ble_eq_true rfl⟩
set_option maxHeartbeats 4000000 in
set_option maxRecDepth 100000 in
theorem c_X2_told_b2 (l : Launch) (hlt : l.stackTraces = false) (D : va_G) (cI cZ cB cE : ClassId) (t : Nat) (a ta : Nat → Nat) (σ τ : zF) (n : Nat) (hI : fl_Iv n σ) (b : Nat) (x : Int32) (hb : b < n) (hx : x < 0 ∨ nI 10 ≤ x) : zT l D (tyL cI cZ cB cE) yX2_told cX2_told 3 (some .int) ({ frames := 7, cells := 1, slots := 6, locals := 122 } : Room) [.ref (t), .int (nI (b)), .int (x)] [(shT t a ta, zZ), (shF a cI cZ, σ), (shF ta cI cZ, τ)] "java/lang/IndexOutOfBoundsException" := by
  have hn3 := hI.n3
  have hn7 := hI.n7
  refine z_ofT (by decide) (Nat.le_of_ble_eq_true rfl) rfl ?_
  intro p e s m args below meth c A C htab
  refine z_aload_n C dX2_told_0 rfl 0 rfl ?_
  refine z_iload_n C dX2_told_1 rfl 1 rfl ?_
  refine z_cV C (st' := []) (B' := [(shT t a ta, zZ), (shF a cI cZ, σ), (shF ta cI cZ, τ)]) [true, true, true] rfl (c_X2_needBoat l D cI cZ cB cE t a ta σ τ n hI b (by omega)) wq_yX2_needBoat wm_X2_30 ⟨wn_yX2_needBoat, wo_yX2_needBoat⟩ ⟨rfl, rfl, Nat.le_of_ble_eq_true rfl, Nat.le_of_ble_eq_true rfl⟩ 0 rfl 0 rfl rfl rfl rfl (Nat.le_of_ble_eq_true rfl) dX2_told_2 ⟨Nat.le_of_ble_eq_true rfl, Nat.le_of_ble_eq_true rfl⟩ rfl rfl ?_
  refine z_aload_n C dX2_told_5 rfl 0 rfl ?_
  refine z_iload_n C dX2_told_6 rfl 2 rfl ?_
  refine z_bipush C (v := nI (10)) (by decide) dX2_told_7 ?_
  exact z_tV C htab [true, true, true] rfl rfl (c_X2_needBelow_bad l hlt D cI cZ cB cE t a ta σ τ n hI x 10 hx (by omega)) wq_yX2_needBelow wm_X2_39 ⟨wn_yX2_needBelow, wo_yX2_needBelow⟩ ⟨rfl, rfl, Nat.le_of_ble_eq_true rfl, Nat.le_of_ble_eq_true rfl⟩ 0 rfl 0 rfl rfl rfl rfl (Nat.le_of_ble_eq_true rfl) dX2_told_9 ⟨Nat.le_of_ble_eq_true rfl, Nat.le_of_ble_eq_true rfl⟩
set_option maxHeartbeats 4000000 in
set_option maxRecDepth 100000 in
theorem c_X2_entry (l : Launch) (D : va_G) (cI cZ cB cE : ClassId) (t : Nat) (a ta : Nat → Nat) (σ τ : zF) (n : Nat) (hI : fl_Iv n σ) (b : Nat) (k : Nat) (w : Nat) (hb : b < n) (hk : k < fl_ln σ b) (hw : w < 3) : zM l D (tyL cI cZ cB cE) yX2_entry cX2_entry 4 (some .int) (zR 7 122) [.ref (t), .int (nI (b)), .int (nI (k)), .int (nI (w))] [(shT t a ta, zZ), (shF a cI cZ, σ), (shF ta cI cZ, τ)] 0 0 (fun r u => r = some (.int (fl_ofE n σ b k w)) ∧ u = [(shT t a ta, zZ), (shF a cI cZ, σ), (shF ta cI cZ, τ)]) := by
  have hn3 := hI.n3
  have hn7 := hI.n7
  refine z_of (by decide) (Nat.le_of_ble_eq_true rfl) rfl ?_
  intro p e s m args below meth c A C hr hin
  obtain ⟨Q, hQ⟩ : ∃ Q, Q = MQ below (zQ (fun r u => r = some (.int (fl_ofE n σ b k w)) ∧ u = [(shT t a ta, zZ), (shF a cI cZ, σ), (shF ta cI cZ, τ)]) D (tyL cI cZ cB cE) A) args s 0 0 A := ⟨_, rfl⟩
  rw [← hQ]
  have hlb := hI.lnT hb
  refine z_aload_n C dX2_entry_0 rfl 0 rfl ?_
  refine z_iload_n C dX2_entry_1 rfl 1 rfl ?_
  refine z_cV C (st' := []) (B' := [(shT t a ta, zZ), (shF a cI cZ, σ), (shF ta cI cZ, τ)]) [true, true, true] rfl (c_X2_needBoat l D cI cZ cB cE t a ta σ τ n hI b (by omega)) wq_yX2_needBoat wm_X2_30 ⟨wn_yX2_needBoat, wo_yX2_needBoat⟩ ⟨rfl, rfl, Nat.le_of_ble_eq_true rfl, Nat.le_of_ble_eq_true rfl⟩ 0 rfl 0 rfl rfl rfl rfl (Nat.le_of_ble_eq_true rfl) dX2_entry_2 ⟨Nat.le_of_ble_eq_true rfl, Nat.le_of_ble_eq_true rfl⟩ rfl rfl ?_
  refine z_aload_n C dX2_entry_5 rfl 0 rfl ?_
  refine z_iload_n C dX2_entry_6 rfl 2 rfl ?_
  refine z_aload_n C dX2_entry_7 rfl 0 rfl ?_
  refine z_getR C wu_X2 0 rfl 0 rfl rfl 0 (by decide) rfl wf_X2_10 dX2_entry_8 ?_
  refine z_getR C wu_X0 1 rfl 0 rfl rfl 12 (by decide) rfl wf_X2_64 dX2_entry_11 ?_
  refine z_getR C wu_X1 1 rfl 12 rfl rfl 0 (by decide) rfl wf_X2_68 dX2_entry_14 ?_
  refine z_iload_n C dX2_entry_17 rfl 1 rfl ?_
  refine z_iald C 1 rfl 8 0 rfl rfl dX2_entry_18 (by omega) (by decide) ?_
  refine z_top (y := nI (fl_ln σ b)) (hI.ln (by omega)) ?_
  have hb_1 := hI.lnT (i := b) (by omega)
  refine z_cV C (st' := []) (B' := [(shT t a ta, zZ), (shF a cI cZ, σ), (shF ta cI cZ, τ)]) [true, true, true] rfl (c_X2_needBelow l D cI cZ cB cE t a ta σ τ n hI k (fl_ln σ b) (by omega) (by omega)) wq_yX2_needBelow wm_X2_39 ⟨wn_yX2_needBelow, wo_yX2_needBelow⟩ ⟨rfl, rfl, Nat.le_of_ble_eq_true rfl, Nat.le_of_ble_eq_true rfl⟩ 0 rfl 0 rfl rfl rfl rfl (Nat.le_of_ble_eq_true rfl) dX2_entry_19 ⟨Nat.le_of_ble_eq_true rfl, Nat.le_of_ble_eq_true rfl⟩ rfl rfl ?_
  refine z_aload_n C dX2_entry_22 rfl 0 rfl ?_
  refine z_iload_n C dX2_entry_23 rfl 3 rfl ?_
  refine z_iconst C (v := nI (3)) (by decide) dX2_entry_24 ?_
  refine z_cV C (st' := []) (B' := [(shT t a ta, zZ), (shF a cI cZ, σ), (shF ta cI cZ, τ)]) [true, true, true] rfl (c_X2_needBelow l D cI cZ cB cE t a ta σ τ n hI w 3 (by omega) (by omega)) wq_yX2_needBelow wm_X2_39 ⟨wn_yX2_needBelow, wo_yX2_needBelow⟩ ⟨rfl, rfl, Nat.le_of_ble_eq_true rfl, Nat.le_of_ble_eq_true rfl⟩ 0 rfl 0 rfl rfl rfl rfl (Nat.le_of_ble_eq_true rfl) dX2_entry_25 ⟨Nat.le_of_ble_eq_true rfl, Nat.le_of_ble_eq_true rfl⟩ rfl rfl ?_
  refine z_aload_n C dX2_entry_28 rfl 0 rfl ?_
  refine z_getR C wu_X2 0 rfl 0 rfl rfl 0 (by decide) rfl wf_X2_10 dX2_entry_29 ?_
  refine z_iload_n C dX2_entry_32 rfl 1 rfl ?_
  refine z_iload_n C dX2_entry_33 rfl 2 rfl ?_
  refine z_iload_n C dX2_entry_34 rfl 3 rfl ?_
  refine z_cV C (st' := [.int (fl_ofE n σ b k w)]) (B' := [(shT t a ta, zZ), (shF a cI cZ, σ), (shF ta cI cZ, τ)]) [false, true, false] rfl (c_X0_ofEntry l D cI cZ cB cE a σ n hI b k w (by omega) (by omega) (by omega)) wq_yX0_ofEntry wm_X2_96 ⟨wn_yX0_ofEntry, wo_yX0_ofEntry⟩ ⟨rfl, rfl, Nat.le_of_ble_eq_true rfl, Nat.le_of_ble_eq_true rfl⟩ 1 rfl 0 rfl rfl rfl rfl (Nat.le_of_ble_eq_true rfl) dX2_entry_35 ⟨Nat.le_of_ble_eq_true rfl, Nat.le_of_ble_eq_true rfl⟩ rfl rfl ?_
  rw [hQ]; exact z_iret C hr dX2_entry_38 ⟨rfl, rfl⟩
set_option maxHeartbeats 4000000 in
set_option maxRecDepth 100000 in
theorem c_X2_entry_b1 (l : Launch) (hlt : l.stackTraces = false) (D : va_G) (cI cZ cB cE : ClassId) (t : Nat) (a ta : Nat → Nat) (σ τ : zF) (n : Nat) (hI : fl_Iv n σ) (x : Int32) (k : Int32) (w : Int32) (hx : x < 0 ∨ nI n ≤ x) : zT l D (tyL cI cZ cB cE) yX2_entry cX2_entry 4 (some .int) ({ frames := 7, cells := 1, slots := 6, locals := 122 } : Room) [.ref (t), .int (x), .int (k), .int (w)] [(shT t a ta, zZ), (shF a cI cZ, σ), (shF ta cI cZ, τ)] "java/lang/IndexOutOfBoundsException" := by
  have hn3 := hI.n3
  have hn7 := hI.n7
  refine z_ofT (by decide) (Nat.le_of_ble_eq_true rfl) rfl ?_
  intro p e s m args below meth c A C htab
  refine z_aload_n C dX2_entry_0 rfl 0 rfl ?_
  refine z_iload_n C dX2_entry_1 rfl 1 rfl ?_
  exact z_tV C htab [true, true, true] rfl rfl (c_X2_needBoat_bad l hlt D cI cZ cB cE t a ta σ τ n hI x hx) wq_yX2_needBoat wm_X2_30 ⟨wn_yX2_needBoat, wo_yX2_needBoat⟩ ⟨rfl, rfl, Nat.le_of_ble_eq_true rfl, Nat.le_of_ble_eq_true rfl⟩ 0 rfl 0 rfl rfl rfl rfl (Nat.le_of_ble_eq_true rfl) dX2_entry_2 ⟨Nat.le_of_ble_eq_true rfl, Nat.le_of_ble_eq_true rfl⟩
set_option maxHeartbeats 4000000 in
set_option maxRecDepth 100000 in
theorem c_X2_entry_b2 (l : Launch) (hlt : l.stackTraces = false) (D : va_G) (cI cZ cB cE : ClassId) (t : Nat) (a ta : Nat → Nat) (σ τ : zF) (n : Nat) (hI : fl_Iv n σ) (b : Nat) (x : Int32) (w : Int32) (hb : b < n) (hx : x < 0 ∨ nI (fl_ln σ b) ≤ x) : zT l D (tyL cI cZ cB cE) yX2_entry cX2_entry 4 (some .int) ({ frames := 7, cells := 1, slots := 6, locals := 122 } : Room) [.ref (t), .int (nI (b)), .int (x), .int (w)] [(shT t a ta, zZ), (shF a cI cZ, σ), (shF ta cI cZ, τ)] "java/lang/IndexOutOfBoundsException" := by
  have hn3 := hI.n3
  have hn7 := hI.n7
  refine z_ofT (by decide) (Nat.le_of_ble_eq_true rfl) rfl ?_
  intro p e s m args below meth c A C htab
  have hlb := hI.lnT hb
  refine z_aload_n C dX2_entry_0 rfl 0 rfl ?_
  refine z_iload_n C dX2_entry_1 rfl 1 rfl ?_
  refine z_cV C (st' := []) (B' := [(shT t a ta, zZ), (shF a cI cZ, σ), (shF ta cI cZ, τ)]) [true, true, true] rfl (c_X2_needBoat l D cI cZ cB cE t a ta σ τ n hI b (by omega)) wq_yX2_needBoat wm_X2_30 ⟨wn_yX2_needBoat, wo_yX2_needBoat⟩ ⟨rfl, rfl, Nat.le_of_ble_eq_true rfl, Nat.le_of_ble_eq_true rfl⟩ 0 rfl 0 rfl rfl rfl rfl (Nat.le_of_ble_eq_true rfl) dX2_entry_2 ⟨Nat.le_of_ble_eq_true rfl, Nat.le_of_ble_eq_true rfl⟩ rfl rfl ?_
  refine z_aload_n C dX2_entry_5 rfl 0 rfl ?_
  refine z_iload_n C dX2_entry_6 rfl 2 rfl ?_
  refine z_aload_n C dX2_entry_7 rfl 0 rfl ?_
  refine z_getR C wu_X2 0 rfl 0 rfl rfl 0 (by decide) rfl wf_X2_10 dX2_entry_8 ?_
  refine z_getR C wu_X0 1 rfl 0 rfl rfl 12 (by decide) rfl wf_X2_64 dX2_entry_11 ?_
  refine z_getR C wu_X1 1 rfl 12 rfl rfl 0 (by decide) rfl wf_X2_68 dX2_entry_14 ?_
  refine z_iload_n C dX2_entry_17 rfl 1 rfl ?_
  refine z_iald C 1 rfl 8 0 rfl rfl dX2_entry_18 (by omega) (by decide) ?_
  refine z_top (y := nI (fl_ln σ b)) (hI.ln (by omega)) ?_
  have hb_1 := hI.lnT (i := b) (by omega)
  exact z_tV C htab [true, true, true] rfl rfl (c_X2_needBelow_bad l hlt D cI cZ cB cE t a ta σ τ n hI x (fl_ln σ b) hx (by omega)) wq_yX2_needBelow wm_X2_39 ⟨wn_yX2_needBelow, wo_yX2_needBelow⟩ ⟨rfl, rfl, Nat.le_of_ble_eq_true rfl, Nat.le_of_ble_eq_true rfl⟩ 0 rfl 0 rfl rfl rfl rfl (Nat.le_of_ble_eq_true rfl) dX2_entry_19 ⟨Nat.le_of_ble_eq_true rfl, Nat.le_of_ble_eq_true rfl⟩
set_option maxHeartbeats 4000000 in
set_option maxRecDepth 100000 in
theorem c_X2_entry_b3 (l : Launch) (hlt : l.stackTraces = false) (D : va_G) (cI cZ cB cE : ClassId) (t : Nat) (a ta : Nat → Nat) (σ τ : zF) (n : Nat) (hI : fl_Iv n σ) (b : Nat) (k : Nat) (x : Int32) (hb : b < n) (hk : k < fl_ln σ b) (hx : x < 0 ∨ nI 3 ≤ x) : zT l D (tyL cI cZ cB cE) yX2_entry cX2_entry 4 (some .int) ({ frames := 7, cells := 1, slots := 6, locals := 122 } : Room) [.ref (t), .int (nI (b)), .int (nI (k)), .int (x)] [(shT t a ta, zZ), (shF a cI cZ, σ), (shF ta cI cZ, τ)] "java/lang/IndexOutOfBoundsException" := by
  have hn3 := hI.n3
  have hn7 := hI.n7
  refine z_ofT (by decide) (Nat.le_of_ble_eq_true rfl) rfl ?_
  intro p e s m args below meth c A C htab
  have hlb := hI.lnT hb
  refine z_aload_n C dX2_entry_0 rfl 0 rfl ?_
  refine z_iload_n C dX2_entry_1 rfl 1 rfl ?_
  refine z_cV C (st' := []) (B' := [(shT t a ta, zZ), (shF a cI cZ, σ), (shF ta cI cZ, τ)]) [true, true, true] rfl (c_X2_needBoat l D cI cZ cB cE t a ta σ τ n hI b (by omega)) wq_yX2_needBoat wm_X2_30 ⟨wn_yX2_needBoat, wo_yX2_needBoat⟩ ⟨rfl, rfl, Nat.le_of_ble_eq_true rfl, Nat.le_of_ble_eq_true rfl⟩ 0 rfl 0 rfl rfl rfl rfl (Nat.le_of_ble_eq_true rfl) dX2_entry_2 ⟨Nat.le_of_ble_eq_true rfl, Nat.le_of_ble_eq_true rfl⟩ rfl rfl ?_
  refine z_aload_n C dX2_entry_5 rfl 0 rfl ?_
  refine z_iload_n C dX2_entry_6 rfl 2 rfl ?_
  refine z_aload_n C dX2_entry_7 rfl 0 rfl ?_
  refine z_getR C wu_X2 0 rfl 0 rfl rfl 0 (by decide) rfl wf_X2_10 dX2_entry_8 ?_
  refine z_getR C wu_X0 1 rfl 0 rfl rfl 12 (by decide) rfl wf_X2_64 dX2_entry_11 ?_
  refine z_getR C wu_X1 1 rfl 12 rfl rfl 0 (by decide) rfl wf_X2_68 dX2_entry_14 ?_
  refine z_iload_n C dX2_entry_17 rfl 1 rfl ?_
  refine z_iald C 1 rfl 8 0 rfl rfl dX2_entry_18 (by omega) (by decide) ?_
  refine z_top (y := nI (fl_ln σ b)) (hI.ln (by omega)) ?_
  have hb_1 := hI.lnT (i := b) (by omega)
  refine z_cV C (st' := []) (B' := [(shT t a ta, zZ), (shF a cI cZ, σ), (shF ta cI cZ, τ)]) [true, true, true] rfl (c_X2_needBelow l D cI cZ cB cE t a ta σ τ n hI k (fl_ln σ b) (by omega) (by omega)) wq_yX2_needBelow wm_X2_39 ⟨wn_yX2_needBelow, wo_yX2_needBelow⟩ ⟨rfl, rfl, Nat.le_of_ble_eq_true rfl, Nat.le_of_ble_eq_true rfl⟩ 0 rfl 0 rfl rfl rfl rfl (Nat.le_of_ble_eq_true rfl) dX2_entry_19 ⟨Nat.le_of_ble_eq_true rfl, Nat.le_of_ble_eq_true rfl⟩ rfl rfl ?_
  refine z_aload_n C dX2_entry_22 rfl 0 rfl ?_
  refine z_iload_n C dX2_entry_23 rfl 3 rfl ?_
  refine z_iconst C (v := nI (3)) (by decide) dX2_entry_24 ?_
  exact z_tV C htab [true, true, true] rfl rfl (c_X2_needBelow_bad l hlt D cI cZ cB cE t a ta σ τ n hI x 3 hx (by omega)) wq_yX2_needBelow wm_X2_39 ⟨wn_yX2_needBelow, wo_yX2_needBelow⟩ ⟨rfl, rfl, Nat.le_of_ble_eq_true rfl, Nat.le_of_ble_eq_true rfl⟩ 0 rfl 0 rfl rfl rfl rfl (Nat.le_of_ble_eq_true rfl) dX2_entry_25 ⟨Nat.le_of_ble_eq_true rfl, Nat.le_of_ble_eq_true rfl⟩
set_option maxHeartbeats 4000000 in
set_option maxRecDepth 100000 in
theorem c_X2_agree (l : Launch) (D : va_G) (cI cZ cB cE : ClassId) (t : Nat) (a ta : Nat → Nat) (σ τ : zF) (n : Nat) (hI : fl_Iv n σ) (b : Nat) (k : Nat) (hb : b < n) (hk : k < n) : zM l D (tyL cI cZ cB cE) yX2_agree cX2_agree 3 (some .int) (zR 7 121) [.ref (t), .int (nI (b)), .int (nI (k))] [(shT t a ta, zZ), (shF a cI cZ, σ), (shF ta cI cZ, τ)] 0 0 (fun r u => r = some (.int (nI (fl_agr σ b k))) ∧ u = [(shT t a ta, zZ), (shF a cI cZ, σ), (shF ta cI cZ, τ)]) := by
  have hn3 := hI.n3
  have hn7 := hI.n7
  refine z_of (by decide) (Nat.le_of_ble_eq_true rfl) rfl ?_
  intro p e s m args below meth c A C hr hin
  obtain ⟨Q, hQ⟩ : ∃ Q, Q = MQ below (zQ (fun r u => r = some (.int (nI (fl_agr σ b k))) ∧ u = [(shT t a ta, zZ), (shF a cI cZ, σ), (shF ta cI cZ, τ)]) D (tyL cI cZ cB cE) A) args s 0 0 A := ⟨_, rfl⟩
  rw [← hQ]
  refine z_aload_n C dX2_agree_0 rfl 0 rfl ?_
  refine z_iload_n C dX2_agree_1 rfl 1 rfl ?_
  refine z_cV C (st' := []) (B' := [(shT t a ta, zZ), (shF a cI cZ, σ), (shF ta cI cZ, τ)]) [true, true, true] rfl (c_X2_needBoat l D cI cZ cB cE t a ta σ τ n hI b (by omega)) wq_yX2_needBoat wm_X2_30 ⟨wn_yX2_needBoat, wo_yX2_needBoat⟩ ⟨rfl, rfl, Nat.le_of_ble_eq_true rfl, Nat.le_of_ble_eq_true rfl⟩ 0 rfl 0 rfl rfl rfl rfl (Nat.le_of_ble_eq_true rfl) dX2_agree_2 ⟨Nat.le_of_ble_eq_true rfl, Nat.le_of_ble_eq_true rfl⟩ rfl rfl ?_
  refine z_aload_n C dX2_agree_5 rfl 0 rfl ?_
  refine z_iload_n C dX2_agree_6 rfl 2 rfl ?_
  refine z_cV C (st' := []) (B' := [(shT t a ta, zZ), (shF a cI cZ, σ), (shF ta cI cZ, τ)]) [true, true, true] rfl (c_X2_needBoat l D cI cZ cB cE t a ta σ τ n hI k (by omega)) wq_yX2_needBoat wm_X2_30 ⟨wn_yX2_needBoat, wo_yX2_needBoat⟩ ⟨rfl, rfl, Nat.le_of_ble_eq_true rfl, Nat.le_of_ble_eq_true rfl⟩ 0 rfl 0 rfl rfl rfl rfl (Nat.le_of_ble_eq_true rfl) dX2_agree_7 ⟨Nat.le_of_ble_eq_true rfl, Nat.le_of_ble_eq_true rfl⟩ rfl rfl ?_
  refine z_aload_n C dX2_agree_10 rfl 0 rfl ?_
  refine z_getR C wu_X2 0 rfl 0 rfl rfl 0 (by decide) rfl wf_X2_10 dX2_agree_11 ?_
  refine z_getR C wu_X0 1 rfl 0 rfl rfl 12 (by decide) rfl wf_X2_64 dX2_agree_14 ?_
  refine z_iload_n C dX2_agree_17 rfl 1 rfl ?_
  refine z_iload_n C dX2_agree_18 rfl 2 rfl ?_
  have hf_1 := fl_agr_m σ b k
  have hf_2 := hI.lnT (i := b) (by omega)
  have hf_3 := hI.lnT (i := k) (by omega)
  refine z_cV C (st' := [.int (nI (fl_agr σ b k))]) (B' := [(shT t a ta, zZ), (shF a cI cZ, σ), (shF ta cI cZ, τ)]) [false, true, false] rfl (c_X1_agreement l D cI cZ cB cE a σ n hI b k (by omega) (by omega)) wq_yX1_agreement wm_X2_100 ⟨wn_yX1_agreement, wo_yX1_agreement⟩ ⟨rfl, rfl, Nat.le_of_ble_eq_true rfl, Nat.le_of_ble_eq_true rfl⟩ 1 rfl 12 rfl rfl rfl rfl (Nat.le_of_ble_eq_true rfl) dX2_agree_19 ⟨Nat.le_of_ble_eq_true rfl, Nat.le_of_ble_eq_true rfl⟩ rfl rfl ?_
  rw [hQ]; exact z_iret C hr dX2_agree_22 ⟨rfl, rfl⟩
set_option maxHeartbeats 4000000 in
set_option maxRecDepth 100000 in
theorem c_X2_agree_b1 (l : Launch) (hlt : l.stackTraces = false) (D : va_G) (cI cZ cB cE : ClassId) (t : Nat) (a ta : Nat → Nat) (σ τ : zF) (n : Nat) (hI : fl_Iv n σ) (x : Int32) (k : Int32) (hx : x < 0 ∨ nI n ≤ x) : zT l D (tyL cI cZ cB cE) yX2_agree cX2_agree 3 (some .int) ({ frames := 7, cells := 1, slots := 6, locals := 121 } : Room) [.ref (t), .int (x), .int (k)] [(shT t a ta, zZ), (shF a cI cZ, σ), (shF ta cI cZ, τ)] "java/lang/IndexOutOfBoundsException" := by
  have hn3 := hI.n3
  have hn7 := hI.n7
  refine z_ofT (by decide) (Nat.le_of_ble_eq_true rfl) rfl ?_
  intro p e s m args below meth c A C htab
  refine z_aload_n C dX2_agree_0 rfl 0 rfl ?_
  refine z_iload_n C dX2_agree_1 rfl 1 rfl ?_
  exact z_tV C htab [true, true, true] rfl rfl (c_X2_needBoat_bad l hlt D cI cZ cB cE t a ta σ τ n hI x hx) wq_yX2_needBoat wm_X2_30 ⟨wn_yX2_needBoat, wo_yX2_needBoat⟩ ⟨rfl, rfl, Nat.le_of_ble_eq_true rfl, Nat.le_of_ble_eq_true rfl⟩ 0 rfl 0 rfl rfl rfl rfl (Nat.le_of_ble_eq_true rfl) dX2_agree_2 ⟨Nat.le_of_ble_eq_true rfl, Nat.le_of_ble_eq_true rfl⟩
set_option maxHeartbeats 4000000 in
set_option maxRecDepth 100000 in
theorem c_X2_agree_b2 (l : Launch) (hlt : l.stackTraces = false) (D : va_G) (cI cZ cB cE : ClassId) (t : Nat) (a ta : Nat → Nat) (σ τ : zF) (n : Nat) (hI : fl_Iv n σ) (b : Nat) (x : Int32) (hb : b < n) (hx : x < 0 ∨ nI n ≤ x) : zT l D (tyL cI cZ cB cE) yX2_agree cX2_agree 3 (some .int) ({ frames := 7, cells := 1, slots := 6, locals := 121 } : Room) [.ref (t), .int (nI (b)), .int (x)] [(shT t a ta, zZ), (shF a cI cZ, σ), (shF ta cI cZ, τ)] "java/lang/IndexOutOfBoundsException" := by
  have hn3 := hI.n3
  have hn7 := hI.n7
  refine z_ofT (by decide) (Nat.le_of_ble_eq_true rfl) rfl ?_
  intro p e s m args below meth c A C htab
  refine z_aload_n C dX2_agree_0 rfl 0 rfl ?_
  refine z_iload_n C dX2_agree_1 rfl 1 rfl ?_
  refine z_cV C (st' := []) (B' := [(shT t a ta, zZ), (shF a cI cZ, σ), (shF ta cI cZ, τ)]) [true, true, true] rfl (c_X2_needBoat l D cI cZ cB cE t a ta σ τ n hI b (by omega)) wq_yX2_needBoat wm_X2_30 ⟨wn_yX2_needBoat, wo_yX2_needBoat⟩ ⟨rfl, rfl, Nat.le_of_ble_eq_true rfl, Nat.le_of_ble_eq_true rfl⟩ 0 rfl 0 rfl rfl rfl rfl (Nat.le_of_ble_eq_true rfl) dX2_agree_2 ⟨Nat.le_of_ble_eq_true rfl, Nat.le_of_ble_eq_true rfl⟩ rfl rfl ?_
  refine z_aload_n C dX2_agree_5 rfl 0 rfl ?_
  refine z_iload_n C dX2_agree_6 rfl 2 rfl ?_
  exact z_tV C htab [true, true, true] rfl rfl (c_X2_needBoat_bad l hlt D cI cZ cB cE t a ta σ τ n hI x hx) wq_yX2_needBoat wm_X2_30 ⟨wn_yX2_needBoat, wo_yX2_needBoat⟩ ⟨rfl, rfl, Nat.le_of_ble_eq_true rfl, Nat.le_of_ble_eq_true rfl⟩ 0 rfl 0 rfl rfl rfl rfl (Nat.le_of_ble_eq_true rfl) dX2_agree_7 ⟨Nat.le_of_ble_eq_true rfl, Nat.le_of_ble_eq_true rfl⟩
set_option maxHeartbeats 4000000 in
set_option maxRecDepth 100000 in
theorem c_X2_newer (l : Launch) (D : va_G) (cI cZ cB cE : ClassId) (t : Nat) (a ta : Nat → Nat) (σ τ : zF) (n : Nat) (hI : fl_Iv n σ) (b : Nat) (k : Nat) (hb : b < n) (hk : k < n) : zM l D (tyL cI cZ cB cE) yX2_newer cX2_newer 3 (some .boolean) (zR 7 121) [.ref (t), .int (nI (b)), .int (nI (k))] [(shT t a ta, zZ), (shF a cI cZ, σ), (shF ta cI cZ, τ)] 0 0 (fun r u => r = some (.int (zb (fl_nw σ b k))) ∧ u = [(shT t a ta, zZ), (shF a cI cZ, σ), (shF ta cI cZ, τ)]) := by
  have hn3 := hI.n3
  have hn7 := hI.n7
  refine z_of (by decide) (Nat.le_of_ble_eq_true rfl) rfl ?_
  intro p e s m args below meth c A C hr hin
  obtain ⟨Q, hQ⟩ : ∃ Q, Q = MQ below (zQ (fun r u => r = some (.int (zb (fl_nw σ b k))) ∧ u = [(shT t a ta, zZ), (shF a cI cZ, σ), (shF ta cI cZ, τ)]) D (tyL cI cZ cB cE) A) args s 0 0 A := ⟨_, rfl⟩
  rw [← hQ]
  refine z_aload_n C dX2_newer_0 rfl 0 rfl ?_
  refine z_iload_n C dX2_newer_1 rfl 1 rfl ?_
  refine z_cV C (st' := []) (B' := [(shT t a ta, zZ), (shF a cI cZ, σ), (shF ta cI cZ, τ)]) [true, true, true] rfl (c_X2_needBoat l D cI cZ cB cE t a ta σ τ n hI b (by omega)) wq_yX2_needBoat wm_X2_30 ⟨wn_yX2_needBoat, wo_yX2_needBoat⟩ ⟨rfl, rfl, Nat.le_of_ble_eq_true rfl, Nat.le_of_ble_eq_true rfl⟩ 0 rfl 0 rfl rfl rfl rfl (Nat.le_of_ble_eq_true rfl) dX2_newer_2 ⟨Nat.le_of_ble_eq_true rfl, Nat.le_of_ble_eq_true rfl⟩ rfl rfl ?_
  refine z_aload_n C dX2_newer_5 rfl 0 rfl ?_
  refine z_iload_n C dX2_newer_6 rfl 2 rfl ?_
  refine z_cV C (st' := []) (B' := [(shT t a ta, zZ), (shF a cI cZ, σ), (shF ta cI cZ, τ)]) [true, true, true] rfl (c_X2_needBoat l D cI cZ cB cE t a ta σ τ n hI k (by omega)) wq_yX2_needBoat wm_X2_30 ⟨wn_yX2_needBoat, wo_yX2_needBoat⟩ ⟨rfl, rfl, Nat.le_of_ble_eq_true rfl, Nat.le_of_ble_eq_true rfl⟩ 0 rfl 0 rfl rfl rfl rfl (Nat.le_of_ble_eq_true rfl) dX2_newer_7 ⟨Nat.le_of_ble_eq_true rfl, Nat.le_of_ble_eq_true rfl⟩ rfl rfl ?_
  refine z_aload_n C dX2_newer_10 rfl 0 rfl ?_
  refine z_getR C wu_X2 0 rfl 0 rfl rfl 0 (by decide) rfl wf_X2_10 dX2_newer_11 ?_
  refine z_getR C wu_X0 1 rfl 0 rfl rfl 12 (by decide) rfl wf_X2_64 dX2_newer_14 ?_
  refine z_iload_n C dX2_newer_17 rfl 1 rfl ?_
  refine z_iload_n C dX2_newer_18 rfl 2 rfl ?_
  refine z_cV C (st' := [.int (zb (fl_nw σ b k))]) (B' := [(shT t a ta, zZ), (shF a cI cZ, σ), (shF ta cI cZ, τ)]) [false, true, false] rfl (c_X1_asNew l D cI cZ cB cE a σ n hI b k (by omega) (by omega)) wq_yX1_asNew wm_X2_103 ⟨wn_yX1_asNew, wo_yX1_asNew⟩ ⟨rfl, rfl, Nat.le_of_ble_eq_true rfl, Nat.le_of_ble_eq_true rfl⟩ 1 rfl 12 rfl rfl rfl rfl (Nat.le_of_ble_eq_true rfl) dX2_newer_19 ⟨Nat.le_of_ble_eq_true rfl, Nat.le_of_ble_eq_true rfl⟩ rfl rfl ?_
  rw [hQ]; exact z_zret C hr (zb_nar _) dX2_newer_22 ⟨rfl, rfl⟩
set_option maxHeartbeats 4000000 in
set_option maxRecDepth 100000 in
theorem c_X2_newer_b1 (l : Launch) (hlt : l.stackTraces = false) (D : va_G) (cI cZ cB cE : ClassId) (t : Nat) (a ta : Nat → Nat) (σ τ : zF) (n : Nat) (hI : fl_Iv n σ) (x : Int32) (k : Int32) (hx : x < 0 ∨ nI n ≤ x) : zT l D (tyL cI cZ cB cE) yX2_newer cX2_newer 3 (some .boolean) ({ frames := 7, cells := 1, slots := 6, locals := 121 } : Room) [.ref (t), .int (x), .int (k)] [(shT t a ta, zZ), (shF a cI cZ, σ), (shF ta cI cZ, τ)] "java/lang/IndexOutOfBoundsException" := by
  have hn3 := hI.n3
  have hn7 := hI.n7
  refine z_ofT (by decide) (Nat.le_of_ble_eq_true rfl) rfl ?_
  intro p e s m args below meth c A C htab
  refine z_aload_n C dX2_newer_0 rfl 0 rfl ?_
  refine z_iload_n C dX2_newer_1 rfl 1 rfl ?_
  exact z_tV C htab [true, true, true] rfl rfl (c_X2_needBoat_bad l hlt D cI cZ cB cE t a ta σ τ n hI x hx) wq_yX2_needBoat wm_X2_30 ⟨wn_yX2_needBoat, wo_yX2_needBoat⟩ ⟨rfl, rfl, Nat.le_of_ble_eq_true rfl, Nat.le_of_ble_eq_true rfl⟩ 0 rfl 0 rfl rfl rfl rfl (Nat.le_of_ble_eq_true rfl) dX2_newer_2 ⟨Nat.le_of_ble_eq_true rfl, Nat.le_of_ble_eq_true rfl⟩
set_option maxHeartbeats 4000000 in
set_option maxRecDepth 100000 in
theorem c_X2_newer_b2 (l : Launch) (hlt : l.stackTraces = false) (D : va_G) (cI cZ cB cE : ClassId) (t : Nat) (a ta : Nat → Nat) (σ τ : zF) (n : Nat) (hI : fl_Iv n σ) (b : Nat) (x : Int32) (hb : b < n) (hx : x < 0 ∨ nI n ≤ x) : zT l D (tyL cI cZ cB cE) yX2_newer cX2_newer 3 (some .boolean) ({ frames := 7, cells := 1, slots := 6, locals := 121 } : Room) [.ref (t), .int (nI (b)), .int (x)] [(shT t a ta, zZ), (shF a cI cZ, σ), (shF ta cI cZ, τ)] "java/lang/IndexOutOfBoundsException" := by
  have hn3 := hI.n3
  have hn7 := hI.n7
  refine z_ofT (by decide) (Nat.le_of_ble_eq_true rfl) rfl ?_
  intro p e s m args below meth c A C htab
  refine z_aload_n C dX2_newer_0 rfl 0 rfl ?_
  refine z_iload_n C dX2_newer_1 rfl 1 rfl ?_
  refine z_cV C (st' := []) (B' := [(shT t a ta, zZ), (shF a cI cZ, σ), (shF ta cI cZ, τ)]) [true, true, true] rfl (c_X2_needBoat l D cI cZ cB cE t a ta σ τ n hI b (by omega)) wq_yX2_needBoat wm_X2_30 ⟨wn_yX2_needBoat, wo_yX2_needBoat⟩ ⟨rfl, rfl, Nat.le_of_ble_eq_true rfl, Nat.le_of_ble_eq_true rfl⟩ 0 rfl 0 rfl rfl rfl rfl (Nat.le_of_ble_eq_true rfl) dX2_newer_2 ⟨Nat.le_of_ble_eq_true rfl, Nat.le_of_ble_eq_true rfl⟩ rfl rfl ?_
  refine z_aload_n C dX2_newer_5 rfl 0 rfl ?_
  refine z_iload_n C dX2_newer_6 rfl 2 rfl ?_
  exact z_tV C htab [true, true, true] rfl rfl (c_X2_needBoat_bad l hlt D cI cZ cB cE t a ta σ τ n hI x hx) wq_yX2_needBoat wm_X2_30 ⟨wn_yX2_needBoat, wo_yX2_needBoat⟩ ⟨rfl, rfl, Nat.le_of_ble_eq_true rfl, Nat.le_of_ble_eq_true rfl⟩ 0 rfl 0 rfl rfl rfl rfl (Nat.le_of_ble_eq_true rfl) dX2_newer_7 ⟨Nat.le_of_ble_eq_true rfl, Nat.le_of_ble_eq_true rfl⟩
set_option maxHeartbeats 4000000 in
set_option maxRecDepth 100000 in
theorem c_X2_leader (l : Launch) (D : va_G) (cI cZ cB cE : ClassId) (t : Nat) (a ta : Nat → Nat) (σ τ : zF) (n : Nat) (hI : fl_Iv n σ) : zM l D (tyL cI cZ cB cE) yX2_leader cX2_leader 3 (some .int) (zR 1 21) [.ref (t)] [(shT t a ta, zZ), (shF a cI cZ, σ), (shF ta cI cZ, τ)] 0 0 (fun r u => r = some (.int (fl_oI (fl_ldr σ n))) ∧ u = [(shT t a ta, zZ), (shF a cI cZ, σ), (shF ta cI cZ, τ)]) := by
  have hn3 := hI.n3
  have hn7 := hI.n7
  refine z_of (by decide) (Nat.le_of_ble_eq_true rfl) rfl ?_
  intro p e s m args below meth c A C hr hin
  obtain ⟨Q, hQ⟩ : ∃ Q, Q = MQ below (zQ (fun r u => r = some (.int (fl_oI (fl_ldr σ n))) ∧ u = [(shT t a ta, zZ), (shF a cI cZ, σ), (shF ta cI cZ, τ)]) D (tyL cI cZ cB cE) A) args s 0 0 A := ⟨_, rfl⟩
  rw [← hQ]
  refine z_iconst C (v := -1) (by decide) dX2_leader_0 ?_
  refine z_istore_n C (L' := [(1, .int (-1)), (0, .ref (t))]) dX2_leader_1 rfl (by decide) rfl ?_
  refine z_iconst C (v := nI (0)) (by decide) dX2_leader_2 ?_
  refine z_istore_n C (L' := [(2, .int (nI (0))), (1, .int (-1)), (0, .ref (t))]) dX2_leader_3 rfl (by decide) rfl ?_
  have loop_4 : ∀ (k_4 o : Nat) (r : Option Nat), n < o + k_4 → o ≤ n → (hbs : r = fl_ldr σ o) → zK p l e (zR 1 21) s m args below meth c D A 3 Q 0 0 4 [(2, .int (nI (o))), (1, .int (fl_oI r)), (0, .ref (t))] [] [(shT t a ta, zZ), (shF a cI cZ, σ), (shF ta cI cZ, τ)] := by
    intro k_4
    induction k_4 with
    | zero => intro o r m1_4 m2_4; exact absurd m1_4 (by omega)
    | succ k_4 ih_4 =>
      intro o r m1_4 m2_4 hbs
      refine z_iload_n C dX2_leader_4 rfl 0 rfl ?_
      refine z_aload_n C dX2_leader_5 rfl 2 rfl ?_
      refine z_getR C wu_X2 0 rfl 0 rfl rfl 0 (by decide) rfl wf_X2_10 dX2_leader_6 ?_
      refine z_getI C wu_X0 1 rfl 0 rfl rfl 0 (by decide) rfl wf_X2_107 dX2_leader_9 ?_
      refine z_top (hI.n0 : _ = nI n) ?_
      refine z_icmp_geN C (tgt := 60) dX2_leader_12 (by decide) (by omega) (by omega) (fun c_12 => ?_) (fun c_12 => ?_)
      · refine z_iload_n C dX2_leader_60 rfl 1 rfl ?_
        rw [hQ]; exact z_iret C hr dX2_leader_61 ⟨congrArg (fun x => some (Value.int x)) (by rw [hbs, show o = n by omega]), rfl⟩
      · refine z_aload_n C dX2_leader_15 rfl 2 rfl ?_
        refine z_getR C wu_X2 0 rfl 0 rfl rfl 0 (by decide) rfl wf_X2_10 dX2_leader_16 ?_
        refine z_iload_n C dX2_leader_19 rfl 0 rfl ?_
        refine z_cV C (st' := [.int (zb (fl_lead σ o))]) (B' := [(shT t a ta, zZ), (shF a cI cZ, σ), (shF ta cI cZ, τ)]) [false, true, false] rfl (c_X0_leadsNow l D cI cZ cB cE a σ n hI o (by omega)) wq_yX0_leadsNow wm_X2_55 ⟨wn_yX0_leadsNow, wo_yX0_leadsNow⟩ ⟨rfl, rfl, Nat.le_of_ble_eq_true rfl, Nat.le_of_ble_eq_true rfl⟩ 1 rfl 0 rfl rfl rfl rfl (Nat.le_of_ble_eq_true rfl) dX2_leader_20 ⟨Nat.le_of_ble_eq_true rfl, Nat.le_of_ble_eq_true rfl⟩ rfl rfl ?_
        refine z_if_eqB C (tgt := 54) dX2_leader_23 (by decide) (fun c_23 => ?_) (fun c_23 => ?_)
        · refine z_iinc C (L' := [(2, .int (nI (o + 1))), (1, .int (fl_oI r)), (0, .ref (t))]) dX2_leader_54 0 rfl (z_inc1 _) (by decide) rfl ?_
          refine z_goto C (tgt := 4) dX2_leader_57 (by decide) ?_
          refine z_sub (L' := [(2, .int (nI (o + 1))), (1, .int (fl_oI r)), (0, .ref (t))]) [0, 1, 2] rfl ?_
          exact ih_4 (o + 1) r (by omega) (by omega) (by rw [fl_ldr, ← hbs]; simp [c_23])
        · rcases r with _ | j
          · refine z_sub (L' := [(2, .int (nI (o))), (1, .int (-1)), (0, .ref (t))]) [0, 1, 2] rfl ?_
            refine z_iload_n C dX2_leader_26 rfl 1 rfl ?_
            refine z_iconst C (v := -1) (by decide) dX2_leader_27 ?_
            refine z_icmp_eq C (tgt := 52) dX2_leader_28 (by decide) (fun c_28 => ?_) (fun c_28 => ?_)
            · refine z_iload_n C dX2_leader_52 rfl 0 rfl ?_
              refine z_istore_n C (L' := [(1, .int (nI (o))), (2, .int (nI (o))), (0, .ref (t))]) dX2_leader_53 rfl (by decide) rfl ?_
              refine z_iinc C (L' := [(2, .int (nI (o + 1))), (1, .int (nI (o))), (0, .ref (t))]) dX2_leader_54 1 rfl (z_inc1 _) (by decide) rfl ?_
              refine z_goto C (tgt := 4) dX2_leader_57 (by decide) ?_
              refine z_sub (L' := [(2, .int (nI (o + 1))), (1, .int (nI (o))), (0, .ref (t))]) [0, 1, 2] rfl ?_
              exact ih_4 (o + 1) (some o) (by omega) (by omega) (by rw [fl_ldr, ← hbs]; simp [c_23])
            · exact absurd rfl c_28
          · refine z_sub (L' := [(2, .int (nI (o))), (1, .int (nI (j))), (0, .ref (t))]) [0, 1, 2] rfl ?_
            have hjn : j < n := Nat.lt_trans (fl_ldr_lt σ o j hbs.symm) (by omega)
            refine z_iload_n C dX2_leader_26 rfl 1 rfl ?_
            refine z_iconst C (v := -1) (by decide) dX2_leader_27 ?_
            refine z_icmp_eq C (tgt := 52) dX2_leader_28 (by decide) (fun c_28 => ?_) (fun c_28 => ?_)
            · exact absurd c_28 (nI_ne_m1 (by omega))
            · refine z_aload_n C dX2_leader_31 rfl 2 rfl ?_
              refine z_getR C wu_X2 0 rfl 0 rfl rfl 0 (by decide) rfl wf_X2_10 dX2_leader_32 ?_
              refine z_getR C wu_X0 1 rfl 0 rfl rfl 7 (by decide) rfl wf_X2_75 dX2_leader_35 ?_
              refine z_iload_n C dX2_leader_38 rfl 0 rfl ?_
              refine z_iald C 1 rfl 3 0 rfl rfl dX2_leader_39 (by omega) (by decide) ?_
              refine z_aload_n C dX2_leader_40 rfl 2 rfl ?_
              refine z_getR C wu_X2 0 rfl 0 rfl rfl 0 (by decide) rfl wf_X2_10 dX2_leader_41 ?_
              refine z_getR C wu_X0 1 rfl 0 rfl rfl 7 (by decide) rfl wf_X2_75 dX2_leader_44 ?_
              refine z_iload_n C dX2_leader_47 rfl 1 rfl ?_
              refine z_iald C 1 rfl 3 0 rfl rfl dX2_leader_48 (by omega) (by decide) ?_
              refine z_icmp_le C (tgt := 54) dX2_leader_49 (by decide) (fun c_49 => ?_) (fun c_49 => ?_)
              · refine z_iinc C (L' := [(2, .int (nI (o + 1))), (1, .int (nI (j))), (0, .ref (t))]) dX2_leader_54 0 rfl (z_inc1 _) (by decide) rfl ?_
                refine z_goto C (tgt := 4) dX2_leader_57 (by decide) ?_
                refine z_sub (L' := [(2, .int (nI (o + 1))), (1, .int (nI (j))), (0, .ref (t))]) [0, 1, 2] rfl ?_
                exact ih_4 (o + 1) (some j) (by omega) (by omega) (by rw [fl_ldr, ← hbs]; simp [c_23, Int32.not_lt.mpr c_49])
              · refine z_iload_n C dX2_leader_52 rfl 0 rfl ?_
                refine z_istore_n C (L' := [(1, .int (nI (o))), (2, .int (nI (o))), (0, .ref (t))]) dX2_leader_53 rfl (by decide) rfl ?_
                refine z_iinc C (L' := [(2, .int (nI (o + 1))), (1, .int (nI (o))), (0, .ref (t))]) dX2_leader_54 1 rfl (z_inc1 _) (by decide) rfl ?_
                refine z_goto C (tgt := 4) dX2_leader_57 (by decide) ?_
                refine z_sub (L' := [(2, .int (nI (o + 1))), (1, .int (nI (o))), (0, .ref (t))]) [0, 1, 2] rfl ?_
                exact ih_4 (o + 1) (some o) (by omega) (by omega) (by rw [fl_ldr, ← hbs]; simp [c_23, Int32.not_le.mp c_49])
  refine z_sub (L' := [(2, .int (nI (0))), (1, .int (-1)), (0, .ref (t))]) [0, 1, 2] rfl ?_
  exact loop_4 (n + 1) 0 none (by omega) (by omega) rfl
set_option maxHeartbeats 4000000 in
set_option maxRecDepth 100000 in
theorem c_X2_count (l : Launch) (D : va_G) (cI cZ cB cE : ClassId) (t : Nat) (a ta : Nat → Nat) (σ τ : zF) (n : Nat) (hI : fl_Iv n σ) (w : Nat) (hw : w < 10) : zM l D (tyL cI cZ cB cE) yX2_count cX2_count 2 (some .int) (zR 7 122) [.ref (t), .int (nI (w))] [(shT t a ta, zZ), (shF a cI cZ, σ), (shF ta cI cZ, τ)] 0 0 (fun r u => r = some (.int (fl_ofF n σ w)) ∧ u = [(shT t a ta, zZ), (shF a cI cZ, σ), (shF ta cI cZ, τ)]) := by
  have hn3 := hI.n3
  have hn7 := hI.n7
  refine z_of (by decide) (Nat.le_of_ble_eq_true rfl) rfl ?_
  intro p e s m args below meth c A C hr hin
  obtain ⟨Q, hQ⟩ : ∃ Q, Q = MQ below (zQ (fun r u => r = some (.int (fl_ofF n σ w)) ∧ u = [(shT t a ta, zZ), (shF a cI cZ, σ), (shF ta cI cZ, τ)]) D (tyL cI cZ cB cE) A) args s 0 0 A := ⟨_, rfl⟩
  rw [← hQ]
  refine z_aload_n C dX2_count_0 rfl 0 rfl ?_
  refine z_iload_n C dX2_count_1 rfl 1 rfl ?_
  refine z_bipush C (v := nI (10)) (by decide) dX2_count_2 ?_
  refine z_cV C (st' := []) (B' := [(shT t a ta, zZ), (shF a cI cZ, σ), (shF ta cI cZ, τ)]) [true, true, true] rfl (c_X2_needBelow l D cI cZ cB cE t a ta σ τ n hI w 10 (by omega) (by omega)) wq_yX2_needBelow wm_X2_39 ⟨wn_yX2_needBelow, wo_yX2_needBelow⟩ ⟨rfl, rfl, Nat.le_of_ble_eq_true rfl, Nat.le_of_ble_eq_true rfl⟩ 0 rfl 0 rfl rfl rfl rfl (Nat.le_of_ble_eq_true rfl) dX2_count_4 ⟨Nat.le_of_ble_eq_true rfl, Nat.le_of_ble_eq_true rfl⟩ rfl rfl ?_
  refine z_aload_n C dX2_count_7 rfl 0 rfl ?_
  refine z_getR C wu_X2 0 rfl 0 rfl rfl 0 (by decide) rfl wf_X2_10 dX2_count_8 ?_
  refine z_iload_n C dX2_count_11 rfl 1 rfl ?_
  refine z_cV C (st' := [.int (fl_ofF n σ w)]) (B' := [(shT t a ta, zZ), (shF a cI cZ, σ), (shF ta cI cZ, τ)]) [false, true, false] rfl (c_X0_ofFleet l D cI cZ cB cE a σ n hI w (by omega)) wq_yX0_ofFleet wm_X2_110 ⟨wn_yX0_ofFleet, wo_yX0_ofFleet⟩ ⟨rfl, rfl, Nat.le_of_ble_eq_true rfl, Nat.le_of_ble_eq_true rfl⟩ 1 rfl 0 rfl rfl rfl rfl (Nat.le_of_ble_eq_true rfl) dX2_count_12 ⟨Nat.le_of_ble_eq_true rfl, Nat.le_of_ble_eq_true rfl⟩ rfl rfl ?_
  rw [hQ]; exact z_iret C hr dX2_count_15 ⟨rfl, rfl⟩
set_option maxHeartbeats 4000000 in
set_option maxRecDepth 100000 in
theorem c_X2_count_b1 (l : Launch) (hlt : l.stackTraces = false) (D : va_G) (cI cZ cB cE : ClassId) (t : Nat) (a ta : Nat → Nat) (σ τ : zF) (n : Nat) (hI : fl_Iv n σ) (x : Int32) (hx : x < 0 ∨ nI 10 ≤ x) : zT l D (tyL cI cZ cB cE) yX2_count cX2_count 2 (some .int) ({ frames := 7, cells := 1, slots := 6, locals := 122 } : Room) [.ref (t), .int (x)] [(shT t a ta, zZ), (shF a cI cZ, σ), (shF ta cI cZ, τ)] "java/lang/IndexOutOfBoundsException" := by
  have hn3 := hI.n3
  have hn7 := hI.n7
  refine z_ofT (by decide) (Nat.le_of_ble_eq_true rfl) rfl ?_
  intro p e s m args below meth c A C htab
  refine z_aload_n C dX2_count_0 rfl 0 rfl ?_
  refine z_iload_n C dX2_count_1 rfl 1 rfl ?_
  refine z_bipush C (v := nI (10)) (by decide) dX2_count_2 ?_
  exact z_tV C htab [true, true, true] rfl rfl (c_X2_needBelow_bad l hlt D cI cZ cB cE t a ta σ τ n hI x 10 hx (by omega)) wq_yX2_needBelow wm_X2_39 ⟨wn_yX2_needBelow, wo_yX2_needBelow⟩ ⟨rfl, rfl, Nat.le_of_ble_eq_true rfl, Nat.le_of_ble_eq_true rfl⟩ 0 rfl 0 rfl rfl rfl rfl (Nat.le_of_ble_eq_true rfl) dX2_count_4 ⟨Nat.le_of_ble_eq_true rfl, Nat.le_of_ble_eq_true rfl⟩
set_option maxHeartbeats 4000000 in
set_option maxRecDepth 100000 in
theorem c_X2_harbour (l : Launch) (D : va_G) (cI cZ cB cE : ClassId) (t : Nat) (a ta : Nat → Nat) (σ τ : zF) (n : Nat) (hI : fl_Iv n σ) (h : Nat) (w : Nat) (hh : h < 3) (hw : w < 3) : zM l D (tyL cI cZ cB cE) yX2_harbour cX2_harbour 4 (some .int) (zR 7 122) [.ref (t), .int (nI (h)), .int (nI (w))] [(shT t a ta, zZ), (shF a cI cZ, σ), (shF ta cI cZ, τ)] 0 0 (fun r u => r = some (.int (if w = 2 then fl_oI (fl_nwst σ (nI h) n) else if w = 1 then zb (decide (n / 2 < fl_upIn n σ (nI h))) else nI (fl_upIn n σ (nI h)))) ∧ u = [(shT t a ta, zZ), (shF a cI cZ, σ), (shF ta cI cZ, τ)]) := by
  have hn3 := hI.n3
  have hn7 := hI.n7
  refine z_of (by decide) (Nat.le_of_ble_eq_true rfl) rfl ?_
  intro p e s m args below meth c A C hr hin
  obtain ⟨Q, hQ⟩ : ∃ Q, Q = MQ below (zQ (fun r u => r = some (.int (if w = 2 then fl_oI (fl_nwst σ (nI h) n) else if w = 1 then zb (decide (n / 2 < fl_upIn n σ (nI h))) else nI (fl_upIn n σ (nI h)))) ∧ u = [(shT t a ta, zZ), (shF a cI cZ, σ), (shF ta cI cZ, τ)]) D (tyL cI cZ cB cE) A) args s 0 0 A := ⟨_, rfl⟩
  rw [← hQ]
  refine z_aload_n C dX2_harbour_0 rfl 0 rfl ?_
  refine z_iload_n C dX2_harbour_1 rfl 1 rfl ?_
  refine z_iconst C (v := nI (3)) (by decide) dX2_harbour_2 ?_
  refine z_cV C (st' := []) (B' := [(shT t a ta, zZ), (shF a cI cZ, σ), (shF ta cI cZ, τ)]) [true, true, true] rfl (c_X2_needBelow l D cI cZ cB cE t a ta σ τ n hI h 3 (by omega) (by omega)) wq_yX2_needBelow wm_X2_39 ⟨wn_yX2_needBelow, wo_yX2_needBelow⟩ ⟨rfl, rfl, Nat.le_of_ble_eq_true rfl, Nat.le_of_ble_eq_true rfl⟩ 0 rfl 0 rfl rfl rfl rfl (Nat.le_of_ble_eq_true rfl) dX2_harbour_3 ⟨Nat.le_of_ble_eq_true rfl, Nat.le_of_ble_eq_true rfl⟩ rfl rfl ?_
  refine z_aload_n C dX2_harbour_6 rfl 0 rfl ?_
  refine z_iload_n C dX2_harbour_7 rfl 2 rfl ?_
  refine z_iconst C (v := nI (3)) (by decide) dX2_harbour_8 ?_
  refine z_cV C (st' := []) (B' := [(shT t a ta, zZ), (shF a cI cZ, σ), (shF ta cI cZ, τ)]) [true, true, true] rfl (c_X2_needBelow l D cI cZ cB cE t a ta σ τ n hI w 3 (by omega) (by omega)) wq_yX2_needBelow wm_X2_39 ⟨wn_yX2_needBelow, wo_yX2_needBelow⟩ ⟨rfl, rfl, Nat.le_of_ble_eq_true rfl, Nat.le_of_ble_eq_true rfl⟩ 0 rfl 0 rfl rfl rfl rfl (Nat.le_of_ble_eq_true rfl) dX2_harbour_9 ⟨Nat.le_of_ble_eq_true rfl, Nat.le_of_ble_eq_true rfl⟩ rfl rfl ?_
  refine z_iload_n C dX2_harbour_12 rfl 2 rfl ?_
  refine z_iconst C (v := nI (2)) (by decide) dX2_harbour_13 ?_
  refine z_icmp_neN C (tgt := 26) dX2_harbour_14 (by decide) (by omega) (by omega) (fun c_14 => ?_) (fun c_14 => ?_)
  · refine z_aload_n C dX2_harbour_26 rfl 0 rfl ?_
    refine z_getR C wu_X2 0 rfl 0 rfl rfl 0 (by decide) rfl wf_X2_10 dX2_harbour_27 ?_
    refine z_iload_n C dX2_harbour_30 rfl 1 rfl ?_
    have hf_1 : fl_upIn n σ (nI (h)) ≤ n  :=  fl_ct_le _ n
    refine z_cV C (st' := [.int (nI (fl_upIn n σ (nI (h))))]) (B' := [(shT t a ta, zZ), (shF a cI cZ, σ), (shF ta cI cZ, τ)]) [false, true, false] rfl (c_X0_upIn l D cI cZ cB cE a σ n hI (nI (h)) ) wq_yX0_upIn wm_X2_117 ⟨wn_yX0_upIn, wo_yX0_upIn⟩ ⟨rfl, rfl, Nat.le_of_ble_eq_true rfl, Nat.le_of_ble_eq_true rfl⟩ 1 rfl 0 rfl rfl rfl rfl (Nat.le_of_ble_eq_true rfl) dX2_harbour_31 ⟨Nat.le_of_ble_eq_true rfl, Nat.le_of_ble_eq_true rfl⟩ rfl rfl ?_
    refine z_istore_n C (L' := [(3, .int (nI (fl_upIn n σ (nI (h))))), (0, .ref (t)), (1, .int (nI (h))), (2, .int (nI (w)))]) dX2_harbour_34 rfl (by decide) rfl ?_
    refine z_iload_n C dX2_harbour_35 rfl 3 rfl ?_
    refine z_iconst C (v := nI (1)) (by decide) dX2_harbour_36 ?_
    refine z_icmp_neN C (tgt := 57) dX2_harbour_37 (by decide) (by omega) (by omega) (fun c_37 => ?_) (fun c_37 => ?_)
    · refine z_iload_n C dX2_harbour_57 rfl 0 rfl ?_
      rw [hQ]; exact z_iret C hr dX2_harbour_58 ⟨congrArg (fun x => some (Value.int x)) (by (rw [if_neg (by omega), if_neg (by omega)])), rfl⟩
    · refine z_aload_n C dX2_harbour_40 rfl 1 rfl ?_
      refine z_getR C wu_X2 0 rfl 0 rfl rfl 0 (by decide) rfl wf_X2_10 dX2_harbour_41 ?_
      refine z_iload_n C dX2_harbour_44 rfl 0 rfl ?_
      refine z_cV C (st' := [.int (zb (decide (n / 2 < (fl_upIn n σ (nI (h))))))]) (B' := [(shT t a ta, zZ), (shF a cI cZ, σ), (shF ta cI cZ, τ)]) [false, true, false] rfl (c_X0_isMoreThanHalf l D cI cZ cB cE a σ n hI (fl_upIn n σ (nI (h))) (by omega)) wq_yX0_isMoreThanHalf wm_X2_120 ⟨wn_yX0_isMoreThanHalf, wo_yX0_isMoreThanHalf⟩ ⟨rfl, rfl, Nat.le_of_ble_eq_true rfl, Nat.le_of_ble_eq_true rfl⟩ 1 rfl 0 rfl rfl rfl rfl (Nat.le_of_ble_eq_true rfl) dX2_harbour_45 ⟨Nat.le_of_ble_eq_true rfl, Nat.le_of_ble_eq_true rfl⟩ rfl rfl ?_
      refine z_if_eqB C (tgt := 55) dX2_harbour_48 (by decide) (fun c_48 => ?_) (fun c_48 => ?_)
      · refine z_iconst C (v := nI (0)) (by decide) dX2_harbour_55 ?_
        rw [hQ]; exact z_iret C hr dX2_harbour_56 ⟨congrArg (fun x => some (Value.int x)) (by first | (rw [if_neg (by omega), if_pos (by omega), c_48]; rfl)), rfl⟩
      · refine z_iconst C (v := nI (1)) (by decide) dX2_harbour_51 ?_
        refine z_goto C (tgt := 56) dX2_harbour_52 (by decide) ?_
        rw [hQ]; exact z_iret C hr dX2_harbour_56 ⟨congrArg (fun x => some (Value.int x)) (by first | (rw [if_neg (by omega), if_pos (by omega), c_48]; rfl)), rfl⟩
  · refine z_aload_n C dX2_harbour_17 rfl 0 rfl ?_
    refine z_getR C wu_X2 0 rfl 0 rfl rfl 0 (by decide) rfl wf_X2_10 dX2_harbour_18 ?_
    refine z_iload_n C dX2_harbour_21 rfl 1 rfl ?_
    refine z_cV C (st' := [.int (fl_oI (fl_nwst σ (nI (h)) n))]) (B' := [(shT t a ta, zZ), (shF a cI cZ, σ), (shF ta cI cZ, τ)]) [false, true, false] rfl (c_X0_newestIn l D cI cZ cB cE a σ n hI (nI (h)) ) wq_yX0_newestIn wm_X2_114 ⟨wn_yX0_newestIn, wo_yX0_newestIn⟩ ⟨rfl, rfl, Nat.le_of_ble_eq_true rfl, Nat.le_of_ble_eq_true rfl⟩ 1 rfl 0 rfl rfl rfl rfl (Nat.le_of_ble_eq_true rfl) dX2_harbour_22 ⟨Nat.le_of_ble_eq_true rfl, Nat.le_of_ble_eq_true rfl⟩ rfl rfl ?_
    rw [hQ]; exact z_iret C hr dX2_harbour_25 ⟨congrArg (fun x => some (Value.int x)) (by rw [if_pos c_14]), rfl⟩
set_option maxHeartbeats 4000000 in
set_option maxRecDepth 100000 in
theorem c_X2_harbour_b1 (l : Launch) (hlt : l.stackTraces = false) (D : va_G) (cI cZ cB cE : ClassId) (t : Nat) (a ta : Nat → Nat) (σ τ : zF) (n : Nat) (hI : fl_Iv n σ) (x : Int32) (w : Int32) (hx : x < 0 ∨ nI 3 ≤ x) : zT l D (tyL cI cZ cB cE) yX2_harbour cX2_harbour 4 (some .int) ({ frames := 7, cells := 1, slots := 6, locals := 122 } : Room) [.ref (t), .int (x), .int (w)] [(shT t a ta, zZ), (shF a cI cZ, σ), (shF ta cI cZ, τ)] "java/lang/IndexOutOfBoundsException" := by
  have hn3 := hI.n3
  have hn7 := hI.n7
  refine z_ofT (by decide) (Nat.le_of_ble_eq_true rfl) rfl ?_
  intro p e s m args below meth c A C htab
  refine z_aload_n C dX2_harbour_0 rfl 0 rfl ?_
  refine z_iload_n C dX2_harbour_1 rfl 1 rfl ?_
  refine z_iconst C (v := nI (3)) (by decide) dX2_harbour_2 ?_
  exact z_tV C htab [true, true, true] rfl rfl (c_X2_needBelow_bad l hlt D cI cZ cB cE t a ta σ τ n hI x 3 hx (by omega)) wq_yX2_needBelow wm_X2_39 ⟨wn_yX2_needBelow, wo_yX2_needBelow⟩ ⟨rfl, rfl, Nat.le_of_ble_eq_true rfl, Nat.le_of_ble_eq_true rfl⟩ 0 rfl 0 rfl rfl rfl rfl (Nat.le_of_ble_eq_true rfl) dX2_harbour_3 ⟨Nat.le_of_ble_eq_true rfl, Nat.le_of_ble_eq_true rfl⟩
set_option maxHeartbeats 4000000 in
set_option maxRecDepth 100000 in
theorem c_X2_harbour_b2 (l : Launch) (hlt : l.stackTraces = false) (D : va_G) (cI cZ cB cE : ClassId) (t : Nat) (a ta : Nat → Nat) (σ τ : zF) (n : Nat) (hI : fl_Iv n σ) (h : Nat) (x : Int32) (hh : h < 3) (hx : x < 0 ∨ nI 3 ≤ x) : zT l D (tyL cI cZ cB cE) yX2_harbour cX2_harbour 4 (some .int) ({ frames := 7, cells := 1, slots := 6, locals := 122 } : Room) [.ref (t), .int (nI (h)), .int (x)] [(shT t a ta, zZ), (shF a cI cZ, σ), (shF ta cI cZ, τ)] "java/lang/IndexOutOfBoundsException" := by
  have hn3 := hI.n3
  have hn7 := hI.n7
  refine z_ofT (by decide) (Nat.le_of_ble_eq_true rfl) rfl ?_
  intro p e s m args below meth c A C htab
  refine z_aload_n C dX2_harbour_0 rfl 0 rfl ?_
  refine z_iload_n C dX2_harbour_1 rfl 1 rfl ?_
  refine z_iconst C (v := nI (3)) (by decide) dX2_harbour_2 ?_
  refine z_cV C (st' := []) (B' := [(shT t a ta, zZ), (shF a cI cZ, σ), (shF ta cI cZ, τ)]) [true, true, true] rfl (c_X2_needBelow l D cI cZ cB cE t a ta σ τ n hI h 3 (by omega) (by omega)) wq_yX2_needBelow wm_X2_39 ⟨wn_yX2_needBelow, wo_yX2_needBelow⟩ ⟨rfl, rfl, Nat.le_of_ble_eq_true rfl, Nat.le_of_ble_eq_true rfl⟩ 0 rfl 0 rfl rfl rfl rfl (Nat.le_of_ble_eq_true rfl) dX2_harbour_3 ⟨Nat.le_of_ble_eq_true rfl, Nat.le_of_ble_eq_true rfl⟩ rfl rfl ?_
  refine z_aload_n C dX2_harbour_6 rfl 0 rfl ?_
  refine z_iload_n C dX2_harbour_7 rfl 2 rfl ?_
  refine z_iconst C (v := nI (3)) (by decide) dX2_harbour_8 ?_
  exact z_tV C htab [true, true, true] rfl rfl (c_X2_needBelow_bad l hlt D cI cZ cB cE t a ta σ τ n hI x 3 hx (by omega)) wq_yX2_needBelow wm_X2_39 ⟨wn_yX2_needBelow, wo_yX2_needBelow⟩ ⟨rfl, rfl, Nat.le_of_ble_eq_true rfl, Nat.le_of_ble_eq_true rfl⟩ 0 rfl 0 rfl rfl rfl rfl (Nat.le_of_ble_eq_true rfl) dX2_harbour_9 ⟨Nat.le_of_ble_eq_true rfl, Nat.le_of_ble_eq_true rfl⟩
set_option maxHeartbeats 4000000 in
set_option maxRecDepth 100000 in
theorem c_X2_until (l : Launch) (D : va_G) (cI cZ cB cE : ClassId) (t : Nat) (a ta : Nat → Nat) (σ τ : zF) (n : Nat) (hI : fl_Iv n σ) : zM l D (tyL cI cZ cB cE) yX2_until cX2_until 2 (some .int) (zR 7 157) [.ref (t)] [(shT t a ta, zZ), (shF a cI cZ, σ), (shF ta cI cZ, τ)] 0 0 (fun r u => r = some (.int ((fl_unt n 0 (fl_cpy σ τ)).1)) ∧ u = [(shT t a ta, zZ), (shF a cI cZ, σ), (shF ta cI cZ, (fl_unt n 0 (fl_cpy σ τ)).2)]) := by
  have hn3 := hI.n3
  have hn7 := hI.n7
  refine z_of (by decide) (Nat.le_of_ble_eq_true rfl) rfl ?_
  intro p e s m args below meth c A C hr hin
  obtain ⟨Q, hQ⟩ : ∃ Q, Q = MQ below (zQ (fun r u => r = some (.int ((fl_unt n 0 (fl_cpy σ τ)).1)) ∧ u = [(shT t a ta, zZ), (shF a cI cZ, σ), (shF ta cI cZ, (fl_unt n 0 (fl_cpy σ τ)).2)]) D (tyL cI cZ cB cE) A) args s 0 0 A := ⟨_, rfl⟩
  rw [← hQ]
  refine z_aload_n C dX2_until_0 rfl 0 rfl ?_
  refine z_getR C wu_X2 0 rfl 0 rfl rfl 1 (by decide) rfl wf_X2_16 dX2_until_1 ?_
  refine z_aload_n C dX2_until_4 rfl 0 rfl ?_
  refine z_getR C wu_X2 0 rfl 0 rfl rfl 0 (by decide) rfl wf_X2_10 dX2_until_5 ?_
  refine z_cV C (st' := []) (B' := [(shT t a ta, zZ), (shF a cI cZ, σ), (shF ta cI cZ, (fl_cpy σ τ))]) [false, true, true] rfl (c_X0_copyFrom l D cI cZ cB cE a ta σ τ hI.u7) wq_yX0_copyFrom wm_X2_123 ⟨wn_yX0_copyFrom, wo_yX0_copyFrom⟩ ⟨rfl, rfl, Nat.le_of_ble_eq_true rfl, Nat.le_of_ble_eq_true rfl⟩ 2 rfl 0 rfl rfl rfl rfl (Nat.le_of_ble_eq_true rfl) dX2_until_8 ⟨Nat.le_of_ble_eq_true rfl, Nat.le_of_ble_eq_true rfl⟩ rfl rfl ?_
  refine z_iconst C (v := nI (0)) (by decide) dX2_until_11 ?_
  refine z_istore_n C (L' := [(1, .int (nI (0))), (0, .ref (t))]) dX2_until_12 rfl (by decide) rfl ?_
  have loop_13 : ∀ (k_13 o : Nat) (ρ : zF), 61 < o + k_13 → o ≤ 61 → (hres : fl_unt n o ρ = (fl_unt n 0 (fl_cpy σ τ))) → (hρ : fl_Iv n ρ) → zK p l e (zR 7 157) s m args below meth c D A 2 Q 0 0 13 [(1, .int (nI (o))), (0, .ref (t))] [] [(shT t a ta, zZ), (shF a cI cZ, σ), (shF ta cI cZ, ρ)] := by
    intro k_13
    induction k_13 with
    | zero => intro o ρ m1_13 m2_13; exact absurd m1_13 (by omega)
    | succ k_13 ih_13 =>
      intro o ρ m1_13 m2_13 hres hρ
      refine z_iload_n C dX2_until_13 rfl 0 rfl ?_
      refine z_bipush C (v := nI (60)) (by decide) dX2_until_14 ?_
      refine z_icmp_gtN C (tgt := 45) dX2_until_16 (by decide) (by omega) (by omega) (fun c_16 => ?_) (fun c_16 => ?_)
      · refine z_iconst C (v := -1) (by decide) dX2_until_45 ?_
        rw [hQ]; exact z_iret C hr dX2_until_46 ⟨congrArg (fun x => some (Value.int x)) (by rw [← hres]; first | (rw [fl_unt_go n o ρ (by omega), c_26]; rfl) | (rw [fl_unt_end n o ρ (by omega)])), congrArg (fun x => [(shT t a ta, zZ), (shF a cI cZ, σ), (shF ta cI cZ, x)]) (by rw [← hres]; first | (rw [fl_unt_go n o ρ (by omega), c_26]; rfl) | (rw [fl_unt_end n o ρ (by omega)]))⟩
      · refine z_aload_n C dX2_until_19 rfl 1 rfl ?_
        refine z_getR C wu_X2 0 rfl 0 rfl rfl 1 (by decide) rfl wf_X2_16 dX2_until_20 ?_
        refine z_cV C (st' := [.int (zb (fl_led n ρ))]) (B' := [(shT t a ta, zZ), (shF a cI cZ, σ), (shF ta cI cZ, ρ)]) [false, false, true] rfl (c_X0_isLed l D cI cZ cB cE ta ρ n hρ  ) wq_yX0_isLed wm_X2_127 ⟨wn_yX0_isLed, wo_yX0_isLed⟩ ⟨rfl, rfl, Nat.le_of_ble_eq_true rfl, Nat.le_of_ble_eq_true rfl⟩ 2 rfl 0 rfl rfl rfl rfl (Nat.le_of_ble_eq_true rfl) dX2_until_23 ⟨Nat.le_of_ble_eq_true rfl, Nat.le_of_ble_eq_true rfl⟩ rfl rfl ?_
        refine z_if_eqB C (tgt := 31) dX2_until_26 (by decide) (fun c_26 => ?_) (fun c_26 => ?_)
        · refine z_aload_n C dX2_until_31 rfl 1 rfl ?_
          refine z_getR C wu_X2 0 rfl 0 rfl rfl 1 (by decide) rfl wf_X2_16 dX2_until_32 ?_
          refine z_iconst C (v := nI (1)) (by decide) dX2_until_35 ?_
          have hi_1 : fl_Iv n (fl_hours n 1 ρ) := fl_hours_Iv hρ _
          refine z_cV C (st' := []) (B' := [(shT t a ta, zZ), (shF a cI cZ, σ), (shF ta cI cZ, (fl_hours n 1 ρ))]) [false, false, true] rfl (c_X0_passHours l D cI cZ cB cE ta ρ n hρ 1 (by omega)) wq_yX0_passHours wm_X2_89 ⟨wn_yX0_passHours, wo_yX0_passHours⟩ ⟨rfl, rfl, Nat.le_of_ble_eq_true rfl, Nat.le_of_ble_eq_true rfl⟩ 2 rfl 0 rfl rfl rfl rfl (Nat.le_of_ble_eq_true rfl) dX2_until_36 ⟨Nat.le_of_ble_eq_true rfl, Nat.le_of_ble_eq_true rfl⟩ rfl rfl ?_
          refine z_iinc C (L' := [(1, .int (nI (o + 1))), (0, .ref (t))]) dX2_until_39 0 rfl (z_inc1 _) (by decide) rfl ?_
          refine z_goto C (tgt := 13) dX2_until_42 (by decide) ?_
          refine z_sub (L' := [(1, .int (nI (o + 1))), (0, .ref (t))]) [0, 1] rfl ?_
          exact ih_13 (o + 1) _ (by omega) (by omega) (Eq.trans (by rw [fl_unt_go n o ρ (by omega), c_26]; rfl) hres) (fl_hour_Iv hρ)
        · refine z_iload_n C dX2_until_29 rfl 0 rfl ?_
          rw [hQ]; exact z_iret C hr dX2_until_30 ⟨congrArg (fun x => some (Value.int x)) (by rw [← hres]; first | (rw [fl_unt_go n o ρ (by omega), c_26]; rfl) | (rw [fl_unt_end n o ρ (by omega)])), congrArg (fun x => [(shT t a ta, zZ), (shF a cI cZ, σ), (shF ta cI cZ, x)]) (by rw [← hres]; first | (rw [fl_unt_go n o ρ (by omega), c_26]; rfl) | (rw [fl_unt_end n o ρ (by omega)]))⟩
  refine z_sub (L' := [(1, .int (nI (0))), (0, .ref (t))]) [0, 1] rfl ?_
  exact loop_13 (61 + 1) 0 _ (by omega) (by omega) rfl (fl_cpy_Iv hI)
set_option maxHeartbeats 4000000 in
set_option maxRecDepth 100000 in
theorem c_X2_foresee (l : Launch) (D : va_G) (cI cZ cB cE : ClassId) (t : Nat) (a ta : Nat → Nat) (σ τ : zF) (n : Nat) (hI : fl_Iv n σ) (h : Nat) (w : Nat) (h1 : 1 ≤ h) (h50 : h ≤ 50) (hw3 : 3 ≤ w) (hw : w < 10) : zM l D (tyL cI cZ cB cE) yX2_foresee cX2_foresee 3 (some .int) (zR 7 157) [.ref (t), .int (nI (h)), .int (nI (w))] [(shT t a ta, zZ), (shF a cI cZ, σ), (shF ta cI cZ, τ)] 0 0 (fun r u => r = some (.int (fl_ofF n (fl_hours n h (fl_cpy σ τ)) w)) ∧ u = [(shT t a ta, zZ), (shF a cI cZ, σ), (shF ta cI cZ, (fl_hours n h (fl_cpy σ τ)))]) := by
  have hn3 := hI.n3
  have hn7 := hI.n7
  refine z_of (by decide) (Nat.le_of_ble_eq_true rfl) rfl ?_
  intro p e s m args below meth c A C hr hin
  obtain ⟨Q, hQ⟩ : ∃ Q, Q = MQ below (zQ (fun r u => r = some (.int (fl_ofF n (fl_hours n h (fl_cpy σ τ)) w)) ∧ u = [(shT t a ta, zZ), (shF a cI cZ, σ), (shF ta cI cZ, (fl_hours n h (fl_cpy σ τ)))]) D (tyL cI cZ cB cE) A) args s 0 0 A := ⟨_, rfl⟩
  rw [← hQ]
  refine z_aload_n C dX2_foresee_0 rfl 0 rfl ?_
  refine z_iload_n C dX2_foresee_1 rfl 1 rfl ?_
  refine z_bipush C (v := nI (50)) (by decide) dX2_foresee_2 ?_
  refine z_cV C (st' := []) (B' := [(shT t a ta, zZ), (shF a cI cZ, σ), (shF ta cI cZ, τ)]) [true, true, true] rfl (c_X2_needHours l D cI cZ cB cE t a ta σ τ n hI h 50 (by omega) (by omega)) wq_yX2_needHours wm_X2_82 ⟨wn_yX2_needHours, wo_yX2_needHours⟩ ⟨rfl, rfl, Nat.le_of_ble_eq_true rfl, Nat.le_of_ble_eq_true rfl⟩ 0 rfl 0 rfl rfl rfl rfl (Nat.le_of_ble_eq_true rfl) dX2_foresee_4 ⟨Nat.le_of_ble_eq_true rfl, Nat.le_of_ble_eq_true rfl⟩ rfl rfl ?_
  refine z_iload_n C dX2_foresee_7 rfl 2 rfl ?_
  refine z_iconst C (v := nI (3)) (by decide) dX2_foresee_8 ?_
  refine z_icmp_ltN C (tgt := 18) dX2_foresee_9 (by decide) (by omega) (by omega) (fun c_9 => ?_) (fun c_9 => ?_)
  · exact absurd c_9 (by omega)
  · refine z_iload_n C dX2_foresee_12 rfl 2 rfl ?_
    refine z_bipush C (v := nI (10)) (by decide) dX2_foresee_13 ?_
    refine z_icmp_ltN C (tgt := 28) dX2_foresee_15 (by decide) (by omega) (by omega) (fun c_15 => ?_) (fun c_15 => ?_)
    · refine z_aload_n C dX2_foresee_28 rfl 0 rfl ?_
      refine z_getR C wu_X2 0 rfl 0 rfl rfl 1 (by decide) rfl wf_X2_16 dX2_foresee_29 ?_
      refine z_aload_n C dX2_foresee_32 rfl 0 rfl ?_
      refine z_getR C wu_X2 0 rfl 0 rfl rfl 0 (by decide) rfl wf_X2_10 dX2_foresee_33 ?_
      refine z_cV C (st' := []) (B' := [(shT t a ta, zZ), (shF a cI cZ, σ), (shF ta cI cZ, (fl_cpy σ τ))]) [false, true, true] rfl (c_X0_copyFrom l D cI cZ cB cE a ta σ τ hI.u7) wq_yX0_copyFrom wm_X2_123 ⟨wn_yX0_copyFrom, wo_yX0_copyFrom⟩ ⟨rfl, rfl, Nat.le_of_ble_eq_true rfl, Nat.le_of_ble_eq_true rfl⟩ 2 rfl 0 rfl rfl rfl rfl (Nat.le_of_ble_eq_true rfl) dX2_foresee_36 ⟨Nat.le_of_ble_eq_true rfl, Nat.le_of_ble_eq_true rfl⟩ rfl rfl ?_
      refine z_aload_n C dX2_foresee_39 rfl 0 rfl ?_
      refine z_getR C wu_X2 0 rfl 0 rfl rfl 1 (by decide) rfl wf_X2_16 dX2_foresee_40 ?_
      refine z_iload_n C dX2_foresee_43 rfl 1 rfl ?_
      have hi_1 : fl_Iv n (fl_hours n h ((fl_cpy σ τ))) := fl_hours_Iv (fl_cpy_Iv hI) _
      refine z_cV C (st' := []) (B' := [(shT t a ta, zZ), (shF a cI cZ, σ), (shF ta cI cZ, (fl_hours n h ((fl_cpy σ τ))))]) [false, false, true] rfl (c_X0_passHours l D cI cZ cB cE ta ((fl_cpy σ τ)) n (fl_cpy_Iv hI) h (by omega)) wq_yX0_passHours wm_X2_89 ⟨wn_yX0_passHours, wo_yX0_passHours⟩ ⟨rfl, rfl, Nat.le_of_ble_eq_true rfl, Nat.le_of_ble_eq_true rfl⟩ 2 rfl 0 rfl rfl rfl rfl (Nat.le_of_ble_eq_true rfl) dX2_foresee_44 ⟨Nat.le_of_ble_eq_true rfl, Nat.le_of_ble_eq_true rfl⟩ rfl rfl ?_
      refine z_aload_n C dX2_foresee_47 rfl 0 rfl ?_
      refine z_getR C wu_X2 0 rfl 0 rfl rfl 1 (by decide) rfl wf_X2_16 dX2_foresee_48 ?_
      refine z_iload_n C dX2_foresee_51 rfl 2 rfl ?_
      refine z_cV C (st' := [.int (fl_ofF n ((fl_hours n h ((fl_cpy σ τ)))) w)]) (B' := [(shT t a ta, zZ), (shF a cI cZ, σ), (shF ta cI cZ, (fl_hours n h ((fl_cpy σ τ))))]) [false, false, true] rfl (c_X0_ofFleet l D cI cZ cB cE ta ((fl_hours n h ((fl_cpy σ τ)))) n hi_1 w (by omega)) wq_yX0_ofFleet wm_X2_110 ⟨wn_yX0_ofFleet, wo_yX0_ofFleet⟩ ⟨rfl, rfl, Nat.le_of_ble_eq_true rfl, Nat.le_of_ble_eq_true rfl⟩ 2 rfl 0 rfl rfl rfl rfl (Nat.le_of_ble_eq_true rfl) dX2_foresee_52 ⟨Nat.le_of_ble_eq_true rfl, Nat.le_of_ble_eq_true rfl⟩ rfl rfl ?_
      rw [hQ]; exact z_iret C hr dX2_foresee_55 ⟨congrArg (fun x => some (Value.int x)) (by simp [c_9, c_15]), congrArg (fun x => [(shT t a ta, zZ), (shF a cI cZ, σ), (shF ta cI cZ, x)]) (by simp [c_9, c_15])⟩
    · exact absurd c_15 (by omega)
set_option maxHeartbeats 4000000 in
set_option maxRecDepth 100000 in
theorem c_X2_foresee_b1 (l : Launch) (hlt : l.stackTraces = false) (D : va_G) (cI cZ cB cE : ClassId) (t : Nat) (a ta : Nat → Nat) (σ τ : zF) (n : Nat) (hI : fl_Iv n σ) (x : Int32) (w : Int32) (hx : x < nI 1 ∨ nI 50 < x) : zT l D (tyL cI cZ cB cE) yX2_foresee cX2_foresee 3 (some .int) ({ frames := 7, cells := 1, slots := 6, locals := 157 } : Room) [.ref (t), .int (x), .int (w)] [(shT t a ta, zZ), (shF a cI cZ, σ), (shF ta cI cZ, τ)] "java/lang/IllegalArgumentException" := by
  have hn3 := hI.n3
  have hn7 := hI.n7
  refine z_ofT (by decide) (Nat.le_of_ble_eq_true rfl) rfl ?_
  intro p e s m args below meth c A C htab
  refine z_aload_n C dX2_foresee_0 rfl 0 rfl ?_
  refine z_iload_n C dX2_foresee_1 rfl 1 rfl ?_
  refine z_bipush C (v := nI (50)) (by decide) dX2_foresee_2 ?_
  exact z_tV C htab [true, true, true] rfl rfl (c_X2_needHours_bad l hlt D cI cZ cB cE t a ta σ τ n hI x 50 hx (by omega)) wq_yX2_needHours wm_X2_82 ⟨wn_yX2_needHours, wo_yX2_needHours⟩ ⟨rfl, rfl, Nat.le_of_ble_eq_true rfl, Nat.le_of_ble_eq_true rfl⟩ 0 rfl 0 rfl rfl rfl rfl (Nat.le_of_ble_eq_true rfl) dX2_foresee_4 ⟨Nat.le_of_ble_eq_true rfl, Nat.le_of_ble_eq_true rfl⟩
set_option maxHeartbeats 4000000 in
set_option maxRecDepth 100000 in
theorem c_X2_foresee_b2 (l : Launch) (hlt : l.stackTraces = false) (D : va_G) (cI cZ cB cE : ClassId) (t : Nat) (a ta : Nat → Nat) (σ τ : zF) (n : Nat) (hI : fl_Iv n σ) (h : Nat) (x : Int32) (h1 : 1 ≤ h) (h50 : h ≤ 50) (hx : x < nI 3 ∨ nI 10 ≤ x) : zT l D (tyL cI cZ cB cE) yX2_foresee cX2_foresee 3 (some .int) ({ frames := 7, cells := 1, slots := 6, locals := 157 } : Room) [.ref (t), .int (nI (h)), .int (x)] [(shT t a ta, zZ), (shF a cI cZ, σ), (shF ta cI cZ, τ)] "java/lang/IndexOutOfBoundsException" := by
  have hn3 := hI.n3
  have hn7 := hI.n7
  refine z_ofT (by decide) (Nat.le_of_ble_eq_true rfl) rfl ?_
  intro p e s m args below meth c A C htab
  refine z_aload_n C dX2_foresee_0 rfl 0 rfl ?_
  refine z_iload_n C dX2_foresee_1 rfl 1 rfl ?_
  refine z_bipush C (v := nI (50)) (by decide) dX2_foresee_2 ?_
  refine z_cV C (st' := []) (B' := [(shT t a ta, zZ), (shF a cI cZ, σ), (shF ta cI cZ, τ)]) [true, true, true] rfl (c_X2_needHours l D cI cZ cB cE t a ta σ τ n hI h 50 (by omega) (by omega)) wq_yX2_needHours wm_X2_82 ⟨wn_yX2_needHours, wo_yX2_needHours⟩ ⟨rfl, rfl, Nat.le_of_ble_eq_true rfl, Nat.le_of_ble_eq_true rfl⟩ 0 rfl 0 rfl rfl rfl rfl (Nat.le_of_ble_eq_true rfl) dX2_foresee_4 ⟨Nat.le_of_ble_eq_true rfl, Nat.le_of_ble_eq_true rfl⟩ rfl rfl ?_
  refine z_iload_n C dX2_foresee_7 rfl 2 rfl ?_
  refine z_iconst C (v := nI (3)) (by decide) dX2_foresee_8 ?_
  refine z_icmp_lt C (tgt := 18) dX2_foresee_9 (by decide) (fun c_9 => ?_) (fun c_9 => ?_)
  · exact z_throwS C hlt htab zt_IOB_135 (by decide : (RX2, 133, "what is not 3 to 9") ∈ zSt) dX2_foresee_18 dX2_foresee_21 dX2_foresee_22 dX2_foresee_24 dX2_foresee_27 ⟨Nat.le_of_ble_eq_true rfl, Nat.le_of_ble_eq_true rfl, Nat.le_of_ble_eq_true rfl, Nat.le_of_ble_eq_true rfl⟩
  · refine z_iload_n C dX2_foresee_12 rfl 2 rfl ?_
    refine z_bipush C (v := nI (10)) (by decide) dX2_foresee_13 ?_
    refine z_icmp_lt C (tgt := 28) dX2_foresee_15 (by decide) (fun c_15 => ?_) (fun c_15 => ?_)
    · exact (hx.elim c_9 (fun q => Int32.not_lt.mpr q c_15)).elim
    · exact z_throwS C hlt htab zt_IOB_135 (by decide : (RX2, 133, "what is not 3 to 9") ∈ zSt) dX2_foresee_18 dX2_foresee_21 dX2_foresee_22 dX2_foresee_24 dX2_foresee_27 ⟨Nat.le_of_ble_eq_true rfl, Nat.le_of_ble_eq_true rfl, Nat.le_of_ble_eq_true rfl, Nat.le_of_ble_eq_true rfl⟩
set_option maxHeartbeats 4000000 in
set_option maxRecDepth 100000 in
theorem c_X2_mean (l : Launch) (D : va_G) (cI cZ cB cE : ClassId) (t : Nat) (a ta : Nat → Nat) (σ τ : zF) (n : Nat) (hI : fl_Iv n σ) : zM l D (tyL cI cZ cB cE) yX2_mean cX2_mean 3 (some .double) (zR 0 0) [.ref (t)] [(shT t a ta, zZ), (shF a cI cZ, σ), (shF ta cI cZ, τ)] 0 0 (fun r u => r = some (.double (FP.ddiv (FP.i2d (nI (fl_sm (fl_kn σ) n))) (FP.i2d (nI (n))))) ∧ u = [(shT t a ta, zZ), (shF a cI cZ, σ), (shF ta cI cZ, τ)]) := by
  have hn3 := hI.n3
  have hn7 := hI.n7
  refine z_of (by decide) (Nat.le_of_ble_eq_true rfl) rfl ?_
  intro p e s m args below meth c A C hr hin
  obtain ⟨Q, hQ⟩ : ∃ Q, Q = MQ below (zQ (fun r u => r = some (.double (FP.ddiv (FP.i2d (nI (fl_sm (fl_kn σ) n))) (FP.i2d (nI (n))))) ∧ u = [(shT t a ta, zZ), (shF a cI cZ, σ), (shF ta cI cZ, τ)]) D (tyL cI cZ cB cE) A) args s 0 0 A := ⟨_, rfl⟩
  rw [← hQ]
  refine z_iconst C (v := nI (0)) (by decide) dX2_mean_0 ?_
  refine z_istore_n C (L' := [(1, .int (nI (0))), (0, .ref (t))]) dX2_mean_1 rfl (by decide) rfl ?_
  refine z_iconst C (v := nI (0)) (by decide) dX2_mean_2 ?_
  refine z_istore_n C (L' := [(2, .int (nI (0))), (1, .int (nI (0))), (0, .ref (t))]) dX2_mean_3 rfl (by decide) rfl ?_
  have loop_4 : ∀ (k_4 o : Nat) (v : Nat), n < o + k_4 → o ≤ n → (hv : v = fl_sm (fl_kn σ) o) → zK p l e (zR 0 0) s m args below meth c D A 3 Q 0 0 4 [(2, .int (nI (o))), (1, .int (nI (v))), (0, .ref (t))] [] [(shT t a ta, zZ), (shF a cI cZ, σ), (shF ta cI cZ, τ)] := by
    intro k_4
    induction k_4 with
    | zero => intro o v m1_4 m2_4; exact absurd m1_4 (by omega)
    | succ k_4 ih_4 =>
      intro o v m1_4 m2_4 hv
      refine z_iload_n C dX2_mean_4 rfl 0 rfl ?_
      refine z_aload_n C dX2_mean_5 rfl 2 rfl ?_
      refine z_getR C wu_X2 0 rfl 0 rfl rfl 0 (by decide) rfl wf_X2_10 dX2_mean_6 ?_
      refine z_getI C wu_X0 1 rfl 0 rfl rfl 0 (by decide) rfl wf_X2_107 dX2_mean_9 ?_
      refine z_top (hI.n0 : _ = nI n) ?_
      refine z_icmp_geN C (tgt := 36) dX2_mean_12 (by decide) (by omega) (by omega) (fun c_12 => ?_) (fun c_12 => ?_)
      · refine z_aload_n C dX2_mean_36 rfl 2 rfl ?_
        refine z_getR C wu_X2 0 rfl 0 rfl rfl 0 (by decide) rfl wf_X2_10 dX2_mean_37 ?_
        refine z_getI C wu_X0 1 rfl 0 rfl rfl 0 (by decide) rfl wf_X2_107 dX2_mean_40 ?_
        refine z_top (hI.n0 : _ = nI n) ?_
        refine z_if_leN C (tgt := 60) dX2_mean_43 (by decide) (by omega) (fun c_43 => ?_) (fun c_43 => ?_)
        · exact absurd c_43 (by omega)
        · refine z_iload_n C dX2_mean_46 rfl 1 rfl ?_
          refine z_i2d C dX2_mean_47 ?_
          refine z_aload_n C dX2_mean_48 rfl 2 rfl ?_
          refine z_getR C wu_X2 0 rfl 0 rfl rfl 0 (by decide) rfl wf_X2_10 dX2_mean_49 ?_
          refine z_getI C wu_X0 1 rfl 0 rfl rfl 0 (by decide) rfl wf_X2_107 dX2_mean_52 ?_
          refine z_top (hI.n0 : _ = nI n) ?_
          refine z_i2d C dX2_mean_55 ?_
          refine z_ddiv C (fl_dd (by rw [hv, show o = n by omega]; have := fl_sm_le (f := fl_kn σ) (fun i hi => hI.knT hi) n (Nat.le_refl n); omega) (by omega) (by omega)) dX2_mean_56 ?_
          refine z_goto C (tgt := 61) dX2_mean_57 (by decide) ?_
          rw [hQ]; exact z_dret C hr dX2_mean_61 ⟨congrArg (fun x => some (Value.double x)) (by rw [hv, show o = n by omega]), rfl⟩
      · refine z_iload_n C dX2_mean_15 rfl 1 rfl ?_
        refine z_aload_n C dX2_mean_16 rfl 2 rfl ?_
        refine z_getR C wu_X2 0 rfl 0 rfl rfl 0 (by decide) rfl wf_X2_10 dX2_mean_17 ?_
        refine z_getR C wu_X0 1 rfl 0 rfl rfl 12 (by decide) rfl wf_X2_64 dX2_mean_20 ?_
        refine z_getR C wu_X1 1 rfl 12 rfl rfl 1 (by decide) rfl wf_X2_142 dX2_mean_23 ?_
        refine z_iload_n C dX2_mean_26 rfl 0 rfl ?_
        refine z_iald C 1 rfl 9 0 rfl rfl dX2_mean_27 (by omega) (by decide) ?_
        refine z_top (y := nI (fl_kn σ o)) (hI.kn (by omega)) ?_
        have hb_1 := hI.knT (i := o) (by omega)
        refine z_iaddN C dX2_mean_28 ?_
        refine z_istore_n C (L' := [(1, .int (nI (v + (fl_kn σ o)))), (2, .int (nI (o))), (0, .ref (t))]) dX2_mean_29 rfl (by decide) rfl ?_
        refine z_iinc C (L' := [(2, .int (nI (o + 1))), (1, .int (nI (v + (fl_kn σ o)))), (0, .ref (t))]) dX2_mean_30 1 rfl (z_inc1 _) (by decide) rfl ?_
        refine z_goto C (tgt := 4) dX2_mean_33 (by decide) ?_
        refine z_sub (L' := [(2, .int (nI (o + 1))), (1, .int (nI (v + (fl_kn σ o)))), (0, .ref (t))]) [0, 1, 2] rfl ?_
        exact ih_4 (o + 1) _ (by omega) (by omega) (by rw [fl_sm, ← hv])
  refine z_sub (L' := [(2, .int (nI (0))), (1, .int (nI (0))), (0, .ref (t))]) [0, 1, 2] rfl ?_
  exact loop_4 (n + 1) 0 _ (by omega) (by omega) rfl
set_option maxHeartbeats 4000000 in
set_option maxRecDepth 100000 in
theorem c_X2_digestOfBoat (l : Launch) (D : va_G) (cI cZ cB cE : ClassId) (t : Nat) (a ta : Nat → Nat) (σ τ : zF) (n : Nat) (hI : fl_Iv n σ) (d0 : Int64) (b : Nat) (hb : b < n) : zM l D (tyL cI cZ cB cE) yX2_digestOfBoat cX2_digestOfBoat 8 (some .long) (zR 4 94) [.ref (t), .long (d0), .int (nI (b))] [(shT t a ta, zZ), (shF a cI cZ, σ), (shF ta cI cZ, τ)] 0 0 (fun r u => r = some (.long (fl_dB n σ b d0)) ∧ u = [(shT t a ta, zZ), (shF a cI cZ, σ), (shF ta cI cZ, τ)]) := by
  have hn3 := hI.n3
  have hn7 := hI.n7
  refine z_of (by decide) (Nat.le_of_ble_eq_true rfl) rfl ?_
  intro p e s m args below meth c A C hr hin
  obtain ⟨Q, hQ⟩ : ∃ Q, Q = MQ below (zQ (fun r u => r = some (.long (fl_dB n σ b d0)) ∧ u = [(shT t a ta, zZ), (shF a cI cZ, σ), (shF ta cI cZ, τ)]) D (tyL cI cZ cB cE) A) args s 0 0 A := ⟨_, rfl⟩
  rw [← hQ]
  have hlb := hI.lnT hb
  refine z_lload_n C dX2_digestOfBoat_0 rfl 1 rfl ?_
  refine z_lstore C (L' := [(4, .long (d0)), (0, .ref (t)), (1, .long (d0)), (3, .int (nI (b)))]) dX2_digestOfBoat_1 (by decide) rfl ?_
  refine z_iconst C (v := nI (0)) (by decide) dX2_digestOfBoat_3 ?_
  refine z_istore C (L' := [(6, .int (nI (0))), (4, .long (d0)), (0, .ref (t)), (1, .long (d0)), (3, .int (nI (b)))]) dX2_digestOfBoat_4 (by decide) rfl ?_
  have loop_6 : ∀ (k_6 o : Nat) (d : Int64), 10 < o + k_6 → o ≤ 10 → (hd : d = fl_dF (fl_ofB σ b) o d0) → zK p l e (zR 4 94) s m args below meth c D A 8 Q 0 0 6 [(6, .int (nI (o))), (4, .long (d)), (1, .long (d0)), (3, .int (nI (b))), (0, .ref (t))] [] [(shT t a ta, zZ), (shF a cI cZ, σ), (shF ta cI cZ, τ)] := by
    intro k_6
    induction k_6 with
    | zero => intro o d m1_6 m2_6; exact absurd m1_6 (by omega)
    | succ k_6 ih_6 =>
      intro o d m1_6 m2_6 hd
      refine z_iload C dX2_digestOfBoat_6 0 rfl ?_
      refine z_bipush C (v := nI (10)) (by decide) dX2_digestOfBoat_8 ?_
      refine z_icmp_geN C (tgt := 39) dX2_digestOfBoat_10 (by decide) (by omega) (by omega) (fun c_10 => ?_) (fun c_10 => ?_)
      · refine z_iconst C (v := nI (0)) (by decide) dX2_digestOfBoat_39 ?_
        refine z_istore C (L' := [(6, .int (nI (0))), (4, .long (d)), (1, .long (d0)), (3, .int (nI (b))), (0, .ref (t))]) dX2_digestOfBoat_40 (by decide) rfl ?_
        have loop_42 : ∀ (k_42 o2 : Nat) (d2 : Int64), (fl_ln σ b) < o2 + k_42 → o2 ≤ (fl_ln σ b) → (hd2 : d2 = fl_dE n σ b o2 (fl_dF (fl_ofB σ b) 10 d0)) → zK p l e (zR 4 94) s m args below meth c D A 8 Q 0 0 42 [(6, .int (nI (o2))), (4, .long (d2)), (1, .long (d0)), (3, .int (nI (b))), (0, .ref (t))] [] [(shT t a ta, zZ), (shF a cI cZ, σ), (shF ta cI cZ, τ)] := by
          intro k_42
          induction k_42 with
          | zero => intro o2 d2 m1_42 m2_42; exact absurd m1_42 (by omega)
          | succ k_42 ih_42 =>
            intro o2 d2 m1_42 m2_42 hd2
            refine z_iload C dX2_digestOfBoat_42 0 rfl ?_
            refine z_aload_n C dX2_digestOfBoat_44 rfl 4 rfl ?_
            refine z_getR C wu_X2 0 rfl 0 rfl rfl 0 (by decide) rfl wf_X2_10 dX2_digestOfBoat_45 ?_
            refine z_getR C wu_X0 1 rfl 0 rfl rfl 12 (by decide) rfl wf_X2_64 dX2_digestOfBoat_48 ?_
            refine z_getR C wu_X1 1 rfl 12 rfl rfl 0 (by decide) rfl wf_X2_68 dX2_digestOfBoat_51 ?_
            refine z_iload_n C dX2_digestOfBoat_54 rfl 3 rfl ?_
            refine z_iald C 1 rfl 8 0 rfl rfl dX2_digestOfBoat_55 (by omega) (by decide) ?_
            refine z_top (y := nI (fl_ln σ b)) (hI.ln (by omega)) ?_
            have hb_1 := hI.lnT (i := b) (by omega)
            refine z_icmp_geN C (tgt := 102) dX2_digestOfBoat_56 (by decide) (by omega) (by omega) (fun c_56 => ?_) (fun c_56 => ?_)
            · refine z_lload C dX2_digestOfBoat_102 1 rfl ?_
              rw [hQ]; exact z_lret C hr dX2_digestOfBoat_104 ⟨congrArg (fun x => some (Value.long x)) (by rw [hd2, show o2 = fl_ln σ b by omega]; rfl), rfl⟩
            · refine z_iconst C (v := nI (0)) (by decide) dX2_digestOfBoat_59 ?_
              refine z_istore C (L' := [(7, .int (nI (0))), (6, .int (nI (o2))), (4, .long (d2)), (1, .long (d0)), (3, .int (nI (b))), (0, .ref (t))]) dX2_digestOfBoat_60 (by decide) rfl ?_
              have loop_62 : ∀ (k_62 q : Nat) (d3 : Int64), 3 < q + k_62 → q ≤ 3 → (hd3 : d3 = fl_dF (fl_ofE n σ b o2) q d2) → zK p l e (zR 4 94) s m args below meth c D A 8 Q 0 0 62 [(7, .int (nI (q))), (6, .int (nI (o2))), (4, .long (d3)), (1, .long (d0)), (3, .int (nI (b))), (0, .ref (t))] [] [(shT t a ta, zZ), (shF a cI cZ, σ), (shF ta cI cZ, τ)] := by
                intro k_62
                induction k_62 with
                | zero => intro q d3 m1_62 m2_62; exact absurd m1_62 (by omega)
                | succ k_62 ih_62 =>
                  intro q d3 m1_62 m2_62 hd3
                  refine z_iload C dX2_digestOfBoat_62 0 rfl ?_
                  refine z_iconst C (v := nI (3)) (by decide) dX2_digestOfBoat_64 ?_
                  refine z_icmp_geN C (tgt := 96) dX2_digestOfBoat_65 (by decide) (by omega) (by omega) (fun c_65 => ?_) (fun c_65 => ?_)
                  · refine z_iinc C (L' := [(6, .int (nI (o2 + 1))), (7, .int (nI (q))), (4, .long (d3)), (1, .long (d0)), (3, .int (nI (b))), (0, .ref (t))]) dX2_digestOfBoat_96 1 rfl (z_inc1 _) (by decide) rfl ?_
                    refine z_goto C (tgt := 42) dX2_digestOfBoat_99 (by decide) ?_
                    refine z_sub (L' := [(6, .int (nI (o2 + 1))), (4, .long (d3)), (1, .long (d0)), (3, .int (nI (b))), (0, .ref (t))]) [0, 2, 3, 4, 5] rfl ?_
                    exact ih_42 (o2 + 1) _ (by omega) (by omega) (by rw [fl_dE, ← hd2, hd3, show q = 3 by omega])
                  · refine z_lload C dX2_digestOfBoat_68 2 rfl ?_
                    refine z_ldc2 C wc_X2_147 dX2_digestOfBoat_70 ?_
                    refine z_lmul C dX2_digestOfBoat_73 ?_
                    refine z_aload_n C dX2_digestOfBoat_74 rfl 5 rfl ?_
                    refine z_getR C wu_X2 0 rfl 0 rfl rfl 0 (by decide) rfl wf_X2_10 dX2_digestOfBoat_75 ?_
                    refine z_iload_n C dX2_digestOfBoat_78 rfl 4 rfl ?_
                    refine z_iload C dX2_digestOfBoat_79 1 rfl ?_
                    refine z_iload C dX2_digestOfBoat_81 0 rfl ?_
                    refine z_cV C (st' := [.int (fl_ofE n σ b o2 q), .long (d3 * 31)]) (B' := [(shT t a ta, zZ), (shF a cI cZ, σ), (shF ta cI cZ, τ)]) [false, true, false] rfl (c_X0_ofEntry l D cI cZ cB cE a σ n hI b o2 q (by omega) (by omega) (by omega)) wq_yX0_ofEntry wm_X2_96 ⟨wn_yX0_ofEntry, wo_yX0_ofEntry⟩ ⟨rfl, rfl, Nat.le_of_ble_eq_true rfl, Nat.le_of_ble_eq_true rfl⟩ 1 rfl 0 rfl rfl rfl rfl (Nat.le_of_ble_eq_true rfl) dX2_digestOfBoat_83 ⟨Nat.le_of_ble_eq_true rfl, Nat.le_of_ble_eq_true rfl⟩ rfl rfl ?_
                    refine z_i2l C (v := (fl_ofE n σ b o2 q).toInt64) rfl dX2_digestOfBoat_86 ?_
                    refine z_ladd C dX2_digestOfBoat_87 ?_
                    refine z_lstore C (L' := [(4, .long ((d3 * 31) + ((fl_ofE n σ b o2 q).toInt64))), (7, .int (nI (q))), (6, .int (nI (o2))), (1, .long (d0)), (3, .int (nI (b))), (0, .ref (t))]) dX2_digestOfBoat_88 (by decide) rfl ?_
                    refine z_iinc C (L' := [(7, .int (nI (q + 1))), (4, .long ((d3 * 31) + ((fl_ofE n σ b o2 q).toInt64))), (6, .int (nI (o2))), (1, .long (d0)), (3, .int (nI (b))), (0, .ref (t))]) dX2_digestOfBoat_90 1 rfl (z_inc1 _) (by decide) rfl ?_
                    refine z_goto C (tgt := 62) dX2_digestOfBoat_93 (by decide) ?_
                    refine z_sub (L' := [(7, .int (nI (q + 1))), (6, .int (nI (o2))), (4, .long ((d3 * 31) + ((fl_ofE n σ b o2 q).toInt64))), (1, .long (d0)), (3, .int (nI (b))), (0, .ref (t))]) [0, 2, 1, 3, 4, 5] rfl ?_
                    exact ih_62 (q + 1) _ (by omega) (by omega) (by rw [fl_dF, ← hd3])
              refine z_sub (L' := [(7, .int (nI (0))), (6, .int (nI (o2))), (4, .long (d2)), (1, .long (d0)), (3, .int (nI (b))), (0, .ref (t))]) [0, 1, 2, 3, 4, 5] rfl ?_
              exact loop_62 (3 + 1) 0 _ (by omega) (by omega) rfl
        refine z_sub (L' := [(6, .int (nI (0))), (4, .long (d)), (1, .long (d0)), (3, .int (nI (b))), (0, .ref (t))]) [0, 1, 2, 3, 4] rfl ?_
        exact loop_42 ((fl_ln σ b) + 1) 0 _ (by omega) (by omega) (by rw [hd, show o = 10 by omega]; rfl)
      · refine z_lload C dX2_digestOfBoat_13 1 rfl ?_
        refine z_ldc2 C wc_X2_147 dX2_digestOfBoat_15 ?_
        refine z_lmul C dX2_digestOfBoat_18 ?_
        refine z_aload_n C dX2_digestOfBoat_19 rfl 4 rfl ?_
        refine z_getR C wu_X2 0 rfl 0 rfl rfl 0 (by decide) rfl wf_X2_10 dX2_digestOfBoat_20 ?_
        refine z_iload_n C dX2_digestOfBoat_23 rfl 3 rfl ?_
        refine z_iload C dX2_digestOfBoat_24 0 rfl ?_
        refine z_cV C (st' := [.int (fl_ofB σ b o), .long (d * 31)]) (B' := [(shT t a ta, zZ), (shF a cI cZ, σ), (shF ta cI cZ, τ)]) [false, true, false] rfl (c_X0_ofBoat l D cI cZ cB cE a σ n hI b o (by omega) (by omega)) wq_yX0_ofBoat wm_X2_92 ⟨wn_yX0_ofBoat, wo_yX0_ofBoat⟩ ⟨rfl, rfl, Nat.le_of_ble_eq_true rfl, Nat.le_of_ble_eq_true rfl⟩ 1 rfl 0 rfl rfl rfl rfl (Nat.le_of_ble_eq_true rfl) dX2_digestOfBoat_26 ⟨Nat.le_of_ble_eq_true rfl, Nat.le_of_ble_eq_true rfl⟩ rfl rfl ?_
        refine z_i2l C (v := (fl_ofB σ b o).toInt64) rfl dX2_digestOfBoat_29 ?_
        refine z_ladd C dX2_digestOfBoat_30 ?_
        refine z_lstore C (L' := [(4, .long ((d * 31) + ((fl_ofB σ b o).toInt64))), (6, .int (nI (o))), (1, .long (d0)), (3, .int (nI (b))), (0, .ref (t))]) dX2_digestOfBoat_31 (by decide) rfl ?_
        refine z_iinc C (L' := [(6, .int (nI (o + 1))), (4, .long ((d * 31) + ((fl_ofB σ b o).toInt64))), (1, .long (d0)), (3, .int (nI (b))), (0, .ref (t))]) dX2_digestOfBoat_33 1 rfl (z_inc1 _) (by decide) rfl ?_
        refine z_goto C (tgt := 6) dX2_digestOfBoat_36 (by decide) ?_
        refine z_sub (L' := [(6, .int (nI (o + 1))), (4, .long ((d * 31) + ((fl_ofB σ b o).toInt64))), (1, .long (d0)), (3, .int (nI (b))), (0, .ref (t))]) [0, 1, 2, 3, 4] rfl ?_
        exact ih_6 (o + 1) _ (by omega) (by omega) (by rw [fl_dF, ← hd])
  refine z_sub (L' := [(6, .int (nI (0))), (4, .long (d0)), (1, .long (d0)), (3, .int (nI (b))), (0, .ref (t))]) [0, 1, 3, 4, 2] rfl ?_
  exact loop_6 (10 + 1) 0 _ (by omega) (by omega) rfl
set_option maxHeartbeats 4000000 in
set_option maxRecDepth 100000 in
theorem c_X2_digest (l : Launch) (D : va_G) (cI cZ cB cE : ClassId) (t : Nat) (a ta : Nat → Nat) (σ τ : zF) (n : Nat) (hI : fl_Iv n σ) : zM l D (tyL cI cZ cB cE) yX2_digest cX2_digest 4 (some .long) (zR 5 121) [.ref (t)] [(shT t a ta, zZ), (shF a cI cZ, σ), (shF ta cI cZ, τ)] 0 0 (fun r u => r = some (.long (fl_dA n σ n)) ∧ u = [(shT t a ta, zZ), (shF a cI cZ, σ), (shF ta cI cZ, τ)]) := by
  have hn3 := hI.n3
  have hn7 := hI.n7
  refine z_of (by decide) (Nat.le_of_ble_eq_true rfl) rfl ?_
  intro p e s m args below meth c A C hr hin
  obtain ⟨Q, hQ⟩ : ∃ Q, Q = MQ below (zQ (fun r u => r = some (.long (fl_dA n σ n)) ∧ u = [(shT t a ta, zZ), (shF a cI cZ, σ), (shF ta cI cZ, τ)]) D (tyL cI cZ cB cE) A) args s 0 0 A := ⟨_, rfl⟩
  rw [← hQ]
  refine z_ldc2 C wc_X2_145 dX2_digest_0 ?_
  refine z_lstore_n C (L' := [(1, .long (1759)), (0, .ref (t))]) dX2_digest_3 rfl (by decide) rfl ?_
  refine z_iconst C (v := nI (0)) (by decide) dX2_digest_4 ?_
  refine z_istore_n C (L' := [(3, .int (nI (0))), (1, .long (1759)), (0, .ref (t))]) dX2_digest_5 rfl (by decide) rfl ?_
  have loop_6 : ∀ (k_6 o : Nat) (d : Int64), 10 < o + k_6 → o ≤ 10 → (hd : d = fl_dF (fl_ofF n σ) o 1759) → zK p l e (zR 5 121) s m args below meth c D A 4 Q 0 0 6 [(3, .int (nI (o))), (1, .long (d)), (0, .ref (t))] [] [(shT t a ta, zZ), (shF a cI cZ, σ), (shF ta cI cZ, τ)] := by
    intro k_6
    induction k_6 with
    | zero => intro o d m1_6 m2_6; exact absurd m1_6 (by omega)
    | succ k_6 ih_6 =>
      intro o d m1_6 m2_6 hd
      refine z_iload_n C dX2_digest_6 rfl 0 rfl ?_
      refine z_bipush C (v := nI (10)) (by decide) dX2_digest_7 ?_
      refine z_icmp_geN C (tgt := 34) dX2_digest_9 (by decide) (by omega) (by omega) (fun c_9 => ?_) (fun c_9 => ?_)
      · refine z_iconst C (v := nI (0)) (by decide) dX2_digest_34 ?_
        refine z_istore_n C (L' := [(3, .int (nI (0))), (1, .long (d)), (0, .ref (t))]) dX2_digest_35 rfl (by decide) rfl ?_
        have loop_36 : ∀ (k_36 b : Nat) (d2 : Int64), n < b + k_36 → b ≤ n → (hd2 : d2 = fl_dA n σ b) → zK p l e (zR 5 121) s m args below meth c D A 4 Q 0 0 36 [(3, .int (nI (b))), (1, .long (d2)), (0, .ref (t))] [] [(shT t a ta, zZ), (shF a cI cZ, σ), (shF ta cI cZ, τ)] := by
          intro k_36
          induction k_36 with
          | zero => intro b d2 m1_36 m2_36; exact absurd m1_36 (by omega)
          | succ k_36 ih_36 =>
            intro b d2 m1_36 m2_36 hd2
            refine z_iload_n C dX2_digest_36 rfl 0 rfl ?_
            refine z_aload_n C dX2_digest_37 rfl 2 rfl ?_
            refine z_getR C wu_X2 0 rfl 0 rfl rfl 0 (by decide) rfl wf_X2_10 dX2_digest_38 ?_
            refine z_getI C wu_X0 1 rfl 0 rfl rfl 0 (by decide) rfl wf_X2_107 dX2_digest_41 ?_
            refine z_top (hI.n0 : _ = nI n) ?_
            refine z_icmp_geN C (tgt := 60) dX2_digest_44 (by decide) (by omega) (by omega) (fun c_44 => ?_) (fun c_44 => ?_)
            · refine z_lload_n C dX2_digest_60 rfl 1 rfl ?_
              rw [hQ]; exact z_lret C hr dX2_digest_61 ⟨congrArg (fun x => some (Value.long x)) (by rw [hd2, show b = n by omega]), rfl⟩
            · refine z_aload_n C dX2_digest_47 rfl 2 rfl ?_
              refine z_lload_n C dX2_digest_48 rfl 1 rfl ?_
              refine z_iload_n C dX2_digest_49 rfl 0 rfl ?_
              refine z_cV C (st' := [.long (fl_dB n σ b d2)]) (B' := [(shT t a ta, zZ), (shF a cI cZ, σ), (shF ta cI cZ, τ)]) [true, true, true] rfl (c_X2_digestOfBoat l D cI cZ cB cE t a ta σ τ n hI d2 b (by omega)) wq_yX2_digestOfBoat wm_X2_149 ⟨wn_yX2_digestOfBoat, wo_yX2_digestOfBoat⟩ ⟨rfl, rfl, Nat.le_of_ble_eq_true rfl, Nat.le_of_ble_eq_true rfl⟩ 0 rfl 0 rfl rfl rfl rfl (Nat.le_of_ble_eq_true rfl) dX2_digest_50 ⟨Nat.le_of_ble_eq_true rfl, Nat.le_of_ble_eq_true rfl⟩ rfl rfl ?_
              refine z_lstore_n C (L' := [(1, .long (fl_dB n σ b d2)), (3, .int (nI (b))), (0, .ref (t))]) dX2_digest_53 rfl (by decide) rfl ?_
              refine z_iinc C (L' := [(3, .int (nI (b + 1))), (1, .long (fl_dB n σ b d2)), (0, .ref (t))]) dX2_digest_54 1 rfl (z_inc1 _) (by decide) rfl ?_
              refine z_goto C (tgt := 36) dX2_digest_57 (by decide) ?_
              refine z_sub (L' := [(3, .int (nI (b + 1))), (1, .long (fl_dB n σ b d2)), (0, .ref (t))]) [0, 1, 2] rfl ?_
              exact ih_36 (b + 1) _ (by omega) (by omega) (by rw [fl_dA, ← hd2])
        refine z_sub (L' := [(3, .int (nI (0))), (1, .long (d)), (0, .ref (t))]) [0, 1, 2] rfl ?_
        exact loop_36 (n + 1) 0 _ (by omega) (by omega) (by rw [hd, show o = 10 by omega]; rfl)
      · refine z_lload_n C dX2_digest_12 rfl 1 rfl ?_
        refine z_ldc2 C wc_X2_147 dX2_digest_13 ?_
        refine z_lmul C dX2_digest_16 ?_
        refine z_aload_n C dX2_digest_17 rfl 2 rfl ?_
        refine z_getR C wu_X2 0 rfl 0 rfl rfl 0 (by decide) rfl wf_X2_10 dX2_digest_18 ?_
        refine z_iload_n C dX2_digest_21 rfl 0 rfl ?_
        refine z_cV C (st' := [.int (fl_ofF n σ o), .long (d * 31)]) (B' := [(shT t a ta, zZ), (shF a cI cZ, σ), (shF ta cI cZ, τ)]) [false, true, false] rfl (c_X0_ofFleet l D cI cZ cB cE a σ n hI o (by omega)) wq_yX0_ofFleet wm_X2_110 ⟨wn_yX0_ofFleet, wo_yX0_ofFleet⟩ ⟨rfl, rfl, Nat.le_of_ble_eq_true rfl, Nat.le_of_ble_eq_true rfl⟩ 1 rfl 0 rfl rfl rfl rfl (Nat.le_of_ble_eq_true rfl) dX2_digest_22 ⟨Nat.le_of_ble_eq_true rfl, Nat.le_of_ble_eq_true rfl⟩ rfl rfl ?_
        refine z_i2l C (v := (fl_ofF n σ o).toInt64) rfl dX2_digest_25 ?_
        refine z_ladd C dX2_digest_26 ?_
        refine z_lstore_n C (L' := [(1, .long ((d * 31) + ((fl_ofF n σ o).toInt64))), (3, .int (nI (o))), (0, .ref (t))]) dX2_digest_27 rfl (by decide) rfl ?_
        refine z_iinc C (L' := [(3, .int (nI (o + 1))), (1, .long ((d * 31) + ((fl_ofF n σ o).toInt64))), (0, .ref (t))]) dX2_digest_28 1 rfl (z_inc1 _) (by decide) rfl ?_
        refine z_goto C (tgt := 6) dX2_digest_31 (by decide) ?_
        refine z_sub (L' := [(3, .int (nI (o + 1))), (1, .long ((d * 31) + ((fl_ofF n σ o).toInt64))), (0, .ref (t))]) [0, 1, 2] rfl ?_
        exact ih_6 (o + 1) _ (by omega) (by omega) (by rw [fl_dF, ← hd])
  refine z_sub (L' := [(3, .int (nI (0))), (1, .long (1759)), (0, .ref (t))]) [0, 1, 2] rfl ?_
  exact loop_6 (10 + 1) 0 _ (by omega) (by omega) rfl
