/-! the fleet by hand: it is made -/
set_option maxHeartbeats 4000000 in
set_option maxRecDepth 100000 in
theorem c_X3_init (l : Launch) (D : va_G) (cI cZ cB cE : ClassId) (h0 p0 : Nat) : zM l D (tyL cI cZ cB cE) yX3_init cX3_init 2 none ({ frames := 1, cells := 1, slots := 0, locals := 20 } : Room) [.ref h0, .int (nI p0)] [([(h0, .inr (.inr (.inr (3, [.int 0, .int 0, .int 0, .int 0, .int 0, .int 0, .int 0, .int 0, .null]))))], zZ)] 1 0 (fun r u => r = none ∧ ∃ q : Nat, u = [([(h0, .inr (.inr (.inr (3, [.int (nI p0), .int (nI p0), .int 0, .int (-1), .int 0, .int 0, .int (nI 1), .int 0, .ref q]))))], zZ), ([(q, zQr cE 0 (fun _ => none))], zZ)]) := by
  refine z_of (by decide) (Nat.le_of_ble_eq_true rfl) rfl ?_
  intro p e s m args below meth c A C hr hin
  refine z_aload_n C dX3_init_0 rfl 0 rfl ?_
  refine z_oinit C wm_X3_1 ⟨Nat.le_of_ble_eq_true rfl, Nat.le_of_ble_eq_true rfl⟩ dX3_init_1 ?_
  refine z_aload_n C dX3_init_4 rfl 0 rfl ?_
  refine z_iconst C (v := -1) (by decide) dX3_init_5 ?_
  refine z_putV C (B' := [([(h0, .inr (.inr (.inr (3, [.int 0, .int 0, .int 0, .int (-1), .int 0, .int 0, .int 0, .int 0, .null]))))], zZ)]) wu_X3 tyX3_ok nmX3 0 rfl 0 rfl rfl 3 (by decide) wf_X3_7 rfl (ty := .int) (v := .int (-1)) (tyX3_ok 3 (by decide)) rfl rfl (by decide) dX3_init_6 rfl ?_
  refine z_aload_n C dX3_init_9 rfl 0 rfl ?_
  refine z_iconst C (v := nI 1) (by decide) dX3_init_10 ?_
  refine z_putV C (B' := [([(h0, .inr (.inr (.inr (3, [.int 0, .int 0, .int 0, .int (-1), .int 0, .int 0, .int (nI 1), .int 0, .null]))))], zZ)]) wu_X3 tyX3_ok nmX3 0 rfl 0 rfl rfl 6 (by decide) wf_X3_13 rfl (ty := .boolean) (v := .int (nI 1)) (tyX3_ok 6 (by decide)) nar_1 (by decide) (by show 6 < 9; decide) dX3_init_11 rfl ?_
  refine z_aload_n C dX3_init_14 rfl 0 rfl ?_
  refine z_iconst C (v := nI 0) (by decide) dX3_init_15 ?_
  refine z_newA C (N := 0) (t := 3) (cA := cE) wl_X3_17 wa_over_I rfl (by decide) ⟨Nat.le_of_ble_eq_true rfl, Nat.le_of_ble_eq_true rfl⟩ dX3_init_16 (fun q => ?_)
  refine z_eq (B' := [([(h0, .inr (.inr (.inr (3, [.int 0, .int 0, .int 0, .int (-1), .int 0, .int 0, .int (nI 1), .int 0, .null]))))], zZ), ([(q, zQr cE 0 (fun _ => none))], zZ)]) rfl ?_
  refine z_putV C (B' := [([(h0, .inr (.inr (.inr (3, [.int 0, .int 0, .int 0, .int (-1), .int 0, .int 0, .int (nI 1), .int 0, .ref q]))))], zZ), ([(q, zQr cE 0 (fun _ => none))], zZ)]) wu_X3 tyX3_ok nmX3 0 rfl 0 rfl rfl 8 (by decide) wf_X3_19 rfl (ty := .array (.array .int)) (v := .ref q) (tyX3_ok 8 (by decide)) rfl rfl (by show 8 < 9; decide) dX3_init_19 rfl ?_
  refine z_aload_n C dX3_init_22 rfl 0 rfl ?_
  refine z_iload_n C dX3_init_23 rfl 1 rfl ?_
  refine z_putV C (B' := [([(h0, .inr (.inr (.inr (3, [.int (nI p0), .int 0, .int 0, .int (-1), .int 0, .int 0, .int (nI 1), .int 0, .ref q]))))], zZ), ([(q, zQr cE 0 (fun _ => none))], zZ)]) wu_X3 tyX3_ok nmX3 0 rfl 0 rfl rfl 0 (by decide) wf_X3_23 rfl (ty := .int) (v := .int (nI p0)) (tyX3_ok 0 (by decide)) rfl rfl (by show 0 < 9; decide) dX3_init_24 rfl ?_
  refine z_aload_n C dX3_init_27 rfl 0 rfl ?_
  refine z_iload_n C dX3_init_28 rfl 1 rfl ?_
  refine z_putV C (B' := [([(h0, .inr (.inr (.inr (3, [.int (nI p0), .int (nI p0), .int 0, .int (-1), .int 0, .int 0, .int (nI 1), .int 0, .ref q]))))], zZ), ([(q, zQr cE 0 (fun _ => none))], zZ)]) wu_X3 tyX3_ok nmX3 0 rfl 0 rfl rfl 1 (by decide) wf_X3_26 rfl (ty := .int) (v := .int (nI p0)) (tyX3_ok 1 (by decide)) rfl rfl (by show 1 < 9; decide) dX3_init_29 rfl ?_
  exact z_vret C hr dX3_init_32 ⟨rfl, q, rfl⟩
/-- a boat as it is made, and how many are there -/
def smI (k r : Nat) : List Value := [.int (nI (2 + k)), .int (nI (2 + k)), .int 0, .int (-1), .int 0, .int 0, .int (nI 1), .int 0, .ref r]
def smNb (ad gl : Nat → Nat) (i : Nat) : List (Nat × zS) := (List.range i).map (fun k => (ad k, .inr (.inr (.inr (3, smI k (gl k))))))
def smNl (cE : ClassId) (gl : Nat → Nat) (i : Nat) : List (Nat × zS) := (List.range i).map (fun k => (gl k, zQr cE 0 (fun _ => some 0)))
def smNf (ad : Nat → Nat) (i : Nat) : Nat → Option Nat := fun k => if k < i then some (ad k) else none
theorem smNf_1 (ad : Nat → Nat) (i q : Nat) : va_up (smNf ad i) i (some q) = smNf (va_up ad i q) (i + 1) := by
  funext k
  unfold va_up smNf
  by_cases h : k = i
  · simp [h]
  · have e : (k < i + 1) = (k < i) := by
      apply propext
      omega
    simp [h, e]
theorem smNb_1 (ad gl : Nat → Nat) (i q r : Nat) : smNb (va_up ad i q) (va_up gl i r) (i + 1) = smNb ad gl i ++ [(q, .inr (.inr (.inr (3, smI i r))))] := by
  unfold smNb
  rw [List.range_succ, List.map_append, List.map_singleton]
  congr 1
  · apply List.map_congr_left
    intro k hk
    have hk : ¬ k = i := by have := List.mem_range.mp hk; omega
    simp [va_up, hk]
  · simp [va_up]
theorem smNl_1 (cE : ClassId) (gl : Nat → Nat) (i r : Nat) : smNl cE (va_up gl i r) (i + 1) = smNl cE gl i ++ [(r, zQr cE 0 (fun _ => some 0))] := by
  unfold smNl
  rw [List.range_succ, List.map_append, List.map_singleton]
  congr 1
  · apply List.map_congr_left
    intro k hk
    have hk : ¬ k = i := by have := List.mem_range.mp hk; omega
    simp [va_up, hk]
  · simp [va_up]
theorem zW1_app : ∀ (x y : List (Nat × zS)) (k : Nat) (σ : zF), (∀ p ∈ y, ∃ ee, p.2 = .inr (.inr ee)) → zW1 k (x ++ y) σ = zW1 k x σ ++ zW1 0 y zZ
  | [], y, k, σ, h => by
    have key : ∀ (y : List (Nat × zS)) (k j : Nat) (σ τ : zF), (∀ p ∈ y, ∃ ee, p.2 = .inr (.inr ee)) → zW1 k y σ = zW1 j y τ := by
      intro y
      induction y with
      | nil => intros; rfl
      | cons p y ih =>
        intro k j σ τ h
        obtain ⟨ee, he⟩ := h p List.mem_cons_self
        show (p.1, zC p.2 (σ k)) :: zW1 (k + 1) y σ = (p.1, zC p.2 (τ j)) :: zW1 (j + 1) y τ
        rw [he, ih (k + 1) (j + 1) σ τ (fun q hq => h q (List.mem_cons_of_mem _ hq))]
        rfl
    exact key y k 0 σ zZ h
  | p :: x, y, k, σ, h => congrArg (fun l => (p.1, zC p.2 (σ k)) :: l) (zW1_app x y (k + 1) σ h)
theorem perm_abcd {β : Type} (x a b c d : List β) : (x ++ (a ++ (b ++ (c ++ d)))).Perm (x ++ ((a ++ c) ++ (b ++ d))) := by
  refine List.Perm.append_left _ ?_
  rw [List.append_assoc]
  refine List.Perm.append_left _ ?_
  rw [← List.append_assoc, ← List.append_assoc]
  exact List.Perm.append_right _ List.perm_append_comm
def smA (h0 q2 : Nat) (ad : Nat → Nat) : Nat → Nat := fun j => if j = 0 then h0 else if j = 1 then q2 else ad (j - 2)
theorem smA_b (h0 q2 : Nat) (ad : Nat → Nat) (k : Nat) : smA h0 q2 ad (2 + k) = ad k := by
  unfold smA
  rw [if_neg (by omega), if_neg (by omega), show 2 + k - 2 = k by omega]
theorem begP_V {n k : Nat} (hk : k < n) (gl : Nat → Nat) (σ : zF) : smV gl (fl_begP n n σ) k = smI k (gl k) := by
  simp [smV, smI, fl_begP, fl_b0, hk]
  decide
theorem begP_ln {n k : Nat} (hk : k < n) (σ : zF) : fl_ln (fl_begP n n σ) k = 0 := by
  simp [fl_ln, fl_begP, fl_b0, hk]
  decide
theorem begP_S {n : Nat} (cB : ClassId) (h0 q2 : Nat) (ad gl : Nat → Nat) (σ : zF) : smS cB (smA h0 q2 ad) n gl (fl_begP n n σ) = (h0, .inr (.inr (.inr (4, [.int 0, .int 0, .int 0, .int 0, .ref q2])))) :: (q2, zQr cB n (fun i => some (ad i))) :: smNb ad gl n := by
  have hb : smB (smA h0 q2 ad) gl (fl_begP n n σ) n = smNb ad gl n := by
    unfold smB smNb
    apply List.map_congr_left
    intro k hk
    rw [smA_b, begP_V (List.mem_range.mp hk)]
  unfold smS
  rw [hb]
  have hO : smO (smA h0 q2 ad) (fl_begP n n σ) = [.int 0, .int 0, .int 0, .int 0, .ref q2] := by
    simp [smO, fl_begP, smA]
    decide
  rw [hO]
  have hf : (fun i => some (smA h0 q2 ad (2 + i))) = (fun i => some (ad i)) := by
    funext i
    rw [smA_b]
  rw [hf]
  rfl
theorem begP_G {n : Nat} (cE : ClassId) (gl : Nat → Nat) (σ : zF) : smG cE n gl (fl_begP n n σ) (fun _ _ => 0) = smNl cE gl n := by
  unfold smG smNl
  apply List.map_congr_left
  intro k hk
  rw [begP_ln (List.mem_range.mp hk)]
set_option maxHeartbeats 4000000 in
set_option maxRecDepth 100000 in
theorem c_X4_init (l : Launch) (D : va_G) (cI cZ cB cE : ClassId) (h0 n : Nat) (hn3 : 3 ≤ n) (hn7 : n ≤ 7) (σ : zF) : zM l D (tyL cI cZ cB cE) yX4_init cX4_init 3 none ({ frames := 2, cells := 16, slots := 70, locals := 60 } : Room) [.ref h0, .int (nI n)] [([(h0, .inr (.inr (.inr (4, [.int 0, .int 0, .int 0, .int 0, .null]))))], zZ)] 16 70 (fun r u => r = none ∧ ∃ a g : Nat → Nat, a 0 = h0 ∧ u = [(smS cB a n g (fl_begP n n σ), zZ), (smG cE n g (fl_begP n n σ) (fun _ _ => 0), zZ), (smP cI [], zZ)]) := by
  refine z_of (by decide) (Nat.le_of_ble_eq_true rfl) rfl ?_
  intro p e s m args below meth c A C hr hin
  obtain ⟨Q, hQ⟩ : ∃ Q, Q = MQ below (zQ (fun r u => r = none ∧ ∃ a g : Nat → Nat, a 0 = h0 ∧ u = [(smS cB a n g (fl_begP n n σ), zZ), (smG cE n g (fl_begP n n σ) (fun _ _ => 0), zZ), (smP cI [], zZ)]) D (tyL cI cZ cB cE) A) args s 16 70 A := ⟨_, rfl⟩
  rw [← hQ]
  refine z_aload_n C dX4_init_0 rfl 0 rfl ?_
  refine z_oinit C wm_X4_1 ⟨Nat.le_of_ble_eq_true rfl, Nat.le_of_ble_eq_true rfl⟩ dX4_init_1 ?_
  refine z_aload_n C dX4_init_4 rfl 0 rfl ?_
  refine z_iconst C (v := nI 0) (by decide) dX4_init_5 ?_
  refine z_newq C (N := 0) (t := 2) (cA := cB) (E := "FleetTermsLaw$Boat") wl_X4_7 wa_over_B rfl (by decide) ⟨Nat.le_of_ble_eq_true rfl, Nat.le_of_ble_eq_true rfl⟩ dX4_init_6 (fun q1 => ?_)
  refine z_eq (B' := [([(h0, .inr (.inr (.inr (4, [.int 0, .int 0, .int 0, .int 0, .null]))))], zZ), ([(q1, zQr cB 0 (fun _ => none))], zZ)]) rfl ?_
  refine z_putV C (B' := [([(h0, .inr (.inr (.inr (4, [.int 0, .int 0, .int 0, .int 0, .ref q1]))))], zZ), ([(q1, zQr cB 0 (fun _ => none))], zZ)]) wu_X4 tyX4_ok nmX4 0 rfl 0 rfl rfl 4 (by decide) wf_X4_9 rfl (ty := .array (.object "FleetTermsLaw$Boat")) (v := .ref q1) (tyX4_ok 4 (by decide)) rfl rfl (by decide) dX4_init_9 rfl ?_
  refine z_aload_n C dX4_init_12 rfl 0 rfl ?_
  refine z_iload_n C dX4_init_13 rfl 1 rfl ?_
  refine z_newq C (N := n) (t := 2) (cA := cB) (E := "FleetTermsLaw$Boat") wl_X4_7 wa_over_B rfl (by omega) ⟨by show _ ≤ 16; omega, by show _ ≤ 70; omega⟩ dX4_init_14 (fun q2 => ?_)
  refine z_eq (B' := [([(h0, .inr (.inr (.inr (4, [.int 0, .int 0, .int 0, .int 0, .ref q1]))))], zZ), ([(q1, zQr cB 0 (fun _ => none))], zZ), ([(q2, zQr cB n (fun _ => none))], zZ)]) rfl ?_
  refine z_putV C (B' := [([(h0, .inr (.inr (.inr (4, [.int 0, .int 0, .int 0, .int 0, .ref q2]))))], zZ), ([(q1, zQr cB 0 (fun _ => none))], zZ), ([(q2, zQr cB n (fun _ => none))], zZ)]) wu_X4 tyX4_ok nmX4 0 rfl 0 rfl rfl 4 (by decide) wf_X4_9 rfl (ty := .array (.object "FleetTermsLaw$Boat")) (v := .ref q2) (tyX4_ok 4 (by decide)) rfl rfl (by show 4 < 5; decide) dX4_init_17 rfl ?_
  refine z_drop (B' := [([(h0, .inr (.inr (.inr (4, [.int 0, .int 0, .int 0, .int 0, .ref q2]))))], zZ), ([(q2, zQr cB n (fun _ => none))], zZ), (smNb (fun _ => 0) (fun _ => 0) 0, zZ), (smNl cE (fun _ => 0) 0, zZ)]) (X := [(q1, .inl (cB, 0, .inr (.inr (.inr (.inr (fun _ => none))))))]) (List.Perm.cons _ (List.Perm.swap _ _ _)) ?_
  refine z_eq (B' := [([(h0, .inr (.inr (.inr (4, [.int 0, .int 0, .int 0, .int 0, .ref q2]))))], zZ), ([(q2, zQr cB n (smNf (fun _ => 0) 0))], zZ), (smNb (fun _ => 0) (fun _ => 0) 0, zZ), (smNl cE (fun _ => 0) 0, zZ)]) (by
    have : (fun _ => none : Nat → Option Nat) = smNf (fun _ => 0) 0 := by
      funext k
      simp [smNf]
    rw [this]) ?_
  refine z_iconst C (v := nI 0) (by decide) dX4_init_20 ?_
  refine z_istore_n C (L' := [(2, .int (nI 0)), (0, .ref h0), (1, .int (nI n))]) dX4_init_21 rfl (by decide) rfl ?_
  have loop : ∀ (f i cc ss : Nat) (ad gl : Nat → Nat), n < i + f → i ≤ n → cc ≤ 2 + 2 * i → ss ≤ n + 9 * i → zK p l e ({ frames := 2, cells := 16, slots := 70, locals := 60 } : Room) s m args below meth c D A 3 Q cc ss 22 [(2, .int (nI i)), (0, .ref h0), (1, .int (nI n))] [] [([(h0, .inr (.inr (.inr (4, [.int 0, .int 0, .int 0, .int 0, .ref q2]))))], zZ), ([(q2, zQr cB n (smNf ad i))], zZ), (smNb ad gl i, zZ), (smNl cE gl i, zZ)] := by
    intro f
    induction f with
    | zero => intro i cc ss ad gl h1 h2; exact absurd h1 (by omega)
    | succ f ih =>
      intro i cc ss ad gl h1 h2 hcc hss
      refine z_iload_n C dX4_init_22 rfl 0 rfl ?_
      refine z_iload_n C dX4_init_23 rfl 2 rfl ?_
      refine z_icmp_geN C (tgt := 49) dX4_init_24 (by decide) (by omega) (by omega) (fun c_24 => ?_) (fun c_24 => ?_)
      · have hin9 : n = i := by omega
        subst hin9
        refine z_acong 1 rfl 0 (f' := fun k => some (ad k)) rfl (fun k hk => by simp [smNf, hk]) (B' := [([(h0, .inr (.inr (.inr (4, [.int 0, .int 0, .int 0, .int 0, .ref q2]))))], zZ), ([(q2, zQr cB n (fun k => some (ad k)))], zZ), (smNb ad gl n, zZ), (smNl cE gl n, zZ)]) rfl ?_
        refine z_weq (B' := [(smS cB (smA h0 q2 ad) n gl (fl_begP n n σ), zZ), (smG cE n gl (fl_begP n n σ) (fun _ _ => 0), zZ), (smP cI [], zZ)]) (by
          rw [begP_S, begP_G]
          show (_ :: _ :: (zW1 0 (smNb ad gl n) zZ ++ (zW1 0 (smNl cE gl n) zZ ++ []))) = (_ :: _ :: zW1 2 (smNb ad gl n) zZ) ++ (zW1 0 (smNl cE gl n) zZ ++ ([] ++ []))
          have e := zW1_app [] (smNb ad gl n) 2 zZ (fun q hq => by
            obtain ⟨k, -, rfl⟩ := List.mem_map.mp hq
            exact ⟨_, rfl⟩)
          have e2 : zW1 2 (smNb ad gl n) zZ = zW1 0 (smNb ad gl n) zZ := e
          rw [e2]
          rfl) ?_
        refine z_widen (k := 16) (n := 70) (by omega) (by omega) ?_
        rw [hQ]; exact z_vret C hr dX4_init_49 ⟨rfl, smA h0 q2 ad, gl, rfl, rfl⟩
      · refine z_aload_n C dX4_init_27 rfl 1 rfl ?_
        refine z_getV C wu_X4 0 rfl 0 rfl rfl 4 (by decide) (v := .ref q2) rfl wf_X4_9 dX4_init_28 ?_
        refine z_iload_n C dX4_init_31 rfl 0 rfl ?_
        refine z_new C (ci := 3) (fs := [.int 0, .int 0, .int 0, .int 0, .int 0, .int 0, .int 0, .int 0, .null]) wu_X3 tyX3_ok wl_X4_7 wz_X3 wi_X3 rfl (fun j hj => by rcases (show j = 0 ∨ j = 1 ∨ j = 2 ∨ j = 3 ∨ j = 4 ∨ j = 5 ∨ j = 6 ∨ j = 7 ∨ j = 8 by omega) with rfl | rfl | rfl | rfl | rfl | rfl | rfl | rfl | rfl <;> rfl) ⟨by show _ ≤ 16; omega, by show _ ≤ 70; omega⟩ dX4_init_32 (fun q => ?_)
        refine z_eq (B' := [([(h0, .inr (.inr (.inr (4, [.int 0, .int 0, .int 0, .int 0, .ref q2]))))], zZ), ([(q2, zQr cB n (smNf ad i))], zZ), (smNb ad gl i, zZ), (smNl cE gl i, zZ), ([(q, .inr (.inr (.inr (3, [.int 0, .int 0, .int 0, .int 0, .int 0, .int 0, .int 0, .int 0, .null]))))], zZ)]) rfl ?_
        refine z_dup C rfl dX4_init_35 ?_
        refine z_iconst C (v := nI 2) (by decide) dX4_init_36 ?_
        refine z_iload_n C dX4_init_37 rfl 0 rfl ?_
        refine z_iaddN C dX4_init_38 ?_
        refine z_callI (ret := none) C [false, false, false, false, true] rfl (c_X3_init l D cI cZ cB cE q (2 + i)) wq_yX3_init wm_X4_15 ⟨rfl, wn_yX3_init⟩ ⟨rfl, rfl, Nat.le_of_ble_eq_true rfl, Nat.le_of_ble_eq_true rfl⟩ rfl rfl (Nat.le_of_ble_eq_true rfl) dX4_init_39 ⟨by show _ ≤ 16; omega, by show _ ≤ 70; omega⟩ ?_
        rintro r9 w9 ⟨rfl, r, rfl⟩
        refine z_eq (B' := [([(h0, .inr (.inr (.inr (4, [.int 0, .int 0, .int 0, .int 0, .ref q2]))))], zZ), ([(q2, zQr cB n (smNf ad i))], zZ), (smNb ad gl i, zZ), (smNl cE gl i, zZ), ([(q, .inr (.inr (.inr (3, smI i r))))], zZ), ([(r, zQr cE 0 (fun _ => none))], zZ)]) rfl ?_
        refine z_astO C (B' := [([(h0, .inr (.inr (.inr (4, [.int 0, .int 0, .int 0, .int 0, .ref q2]))))], zZ), ([(q2, zQr cB n (va_up (smNf ad i) i (some q)))], zZ), (smNb ad gl i, zZ), (smNl cE gl i, zZ), ([(q, .inr (.inr (.inr (3, smI i r))))], zZ), ([(r, zQr cE 0 (fun _ => none))], zZ)]) 1 4 rfl rfl 0 0 2 3 rfl rfl rfl rfl dX4_init_42 (by omega) (by omega) rfl ?_
        refine z_acong 5 rfl 0 (f' := fun _ => some 0) rfl (fun k hk => absurd hk (Nat.not_lt_zero k)) (B' := [([(h0, .inr (.inr (.inr (4, [.int 0, .int 0, .int 0, .int 0, .ref q2]))))], zZ), ([(q2, zQr cB n (va_up (smNf ad i) i (some q)))], zZ), (smNb ad gl i, zZ), (smNl cE gl i, zZ), ([(q, .inr (.inr (.inr (3, smI i r))))], zZ), ([(r, zQr cE 0 (fun _ => some 0))], zZ)]) rfl ?_
        refine z_wperm (B' := [([(h0, .inr (.inr (.inr (4, [.int 0, .int 0, .int 0, .int 0, .ref q2]))))], zZ), ([(q2, zQr cB n (smNf (va_up ad i q) (i + 1)))], zZ), (smNb (va_up ad i q) (va_up gl i r) (i + 1), zZ), (smNl cE (va_up gl i r) (i + 1), zZ)]) (by
          rw [smNf_1, smNb_1, smNl_1]
          show (_ :: _ :: (zW1 0 (smNb ad gl i) zZ ++ (zW1 0 (smNl cE gl i) zZ ++ ([(q, _)] ++ [(r, _)])))).Perm (_ :: _ :: (zW1 0 (smNb ad gl i ++ _) zZ ++ (zW1 0 (smNl cE gl i ++ _) zZ ++ [])))
          rw [zW1_app _ _ _ _ (fun p hp => by rw [List.mem_singleton.mp hp]; exact ⟨_, rfl⟩), zW1_app _ _ _ _ (fun p hp => by rw [List.mem_singleton.mp hp]; exact ⟨_, rfl⟩), List.append_nil]
          exact perm_abcd [_, _] _ _ _ _) ?_
        refine z_iinc C (L' := [(2, .int (nI (i + 1))), (0, .ref h0), (1, .int (nI n))]) dX4_init_43 0 rfl (z_inc1 _) (by decide) rfl ?_
        refine z_goto C (tgt := 22) dX4_init_46 (by decide) ?_
        exact ih (i + 1) _ _ (va_up ad i q) (va_up gl i r) (by omega) (by omega) (by omega) (by omega)
  exact loop (n + 1) 0 _ _ _ _ (by omega) (by omega) (by omega) (by omega)
