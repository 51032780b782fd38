section ModR
variable {p : Program} {l : Launch} {e : Env} {R : Room} {s : State} {m : MethodId} {args : Array Value} {below : List Frame} {meth : Method} {c : Code} {d : yD} {b : Nat} {Q : State → Prop} {cells slots n : Nat} {h : yH}
set_option maxHeartbeats 1000000 in
theorem c_Mod_init (hl : yL l) (h0 : h 29 = some (oO 4 [vi 0, vi 0, .null, .null, .null, vj 0, vi 0, .null, .null, .null, .null, .null])) :
    yM l y_Mod_init b_Mod_init 1 none 1 12 8 14144 d b 30 h [.ref (b + 29)] (fun q n' h' => q = none ∧ n' = 38 ∧ RepM d b h' vw0 0 ∧ ∀ k, k < 29 → h' k = h k) noT := by
  refine yM_of hl (by decide +kernel) (Nat.le_of_ble_eq_true rfl) (fun p e s m args below meth c C => ?_)
  refine V_aload_n C d_Mod_init_0 rfl rfl ?_
  refine V_objInit C w_Mod_init_1 wc_Obj (by decide) (by decide) d_Mod_init_1 ?_
  refine V_aload_n C d_Mod_init_4 rfl rfl ?_
  refine V_bipush (z := 8) C d_Mod_init_5 rfl ?_
  refine V_newI C (N := 8) rfl (by decide) wa_I (by decide) (by decide) d_Mod_init_7 ?_
  refine V_putF (ty := (.array .int)) C 4 2 ((hs_ne _ _ (by omega)).trans h0) rfl in_Mod t_Mod tok_Mod nm_Mod (by decide) w_Mod_init_9 rfl rfl rfl rfl (by decide +kernel) rfl rfl (Nat.le_of_ble_eq_true rfl) d_Mod_init_9 ?_
  refine V_aload_n C d_Mod_init_12 rfl rfl ?_
  refine V_bipush (z := 8) C d_Mod_init_13 rfl ?_
  refine V_newI C (N := 8) rfl (by decide) wa_I (by decide) (by decide) d_Mod_init_15 ?_
  refine V_putF (ty := (.array .int)) C 4 3 ((hs_ne _ _ (by omega)).trans (hs_eq _ _ _)) rfl in_Mod t_Mod tok_Mod nm_Mod (by decide) w_Mod_init_17 rfl rfl rfl rfl (by decide +kernel) rfl rfl (Nat.le_of_ble_eq_true rfl) d_Mod_init_17 ?_
  refine V_aload_n C d_Mod_init_20 rfl rfl ?_
  refine V_sipush (z := 13824) C d_Mod_init_21 rfl ?_
  refine V_newI C (N := 13824) rfl (by decide) wa_I (by decide) (by decide) d_Mod_init_24 ?_
  refine V_putF (ty := (.array .int)) C 4 4 ((hs_ne _ _ (by omega)).trans (hs_eq _ _ _)) rfl in_Mod t_Mod tok_Mod nm_Mod (by decide) w_Mod_init_26 rfl rfl rfl rfl (by decide +kernel) rfl rfl (Nat.le_of_ble_eq_true rfl) d_Mod_init_26 ?_
  refine V_aload_n C d_Mod_init_29 rfl rfl ?_
  refine V_bipush (z := 48) C d_Mod_init_30 rfl ?_
  refine V_newI C (N := 48) rfl (by decide) wa_I (by decide) (by decide) d_Mod_init_32 ?_
  refine V_putF (ty := (.array .int)) C 4 7 ((hs_ne _ _ (by omega)).trans (hs_eq _ _ _)) rfl in_Mod t_Mod tok_Mod nm_Mod (by decide) w_Mod_init_34 rfl rfl rfl rfl (by decide +kernel) rfl rfl (Nat.le_of_ble_eq_true rfl) d_Mod_init_34 ?_
  refine V_aload_n C d_Mod_init_37 rfl rfl ?_
  refine V_bipush (z := 48) C d_Mod_init_38 rfl ?_
  refine V_newI C (N := 48) rfl (by decide) wa_I (by decide) (by decide) d_Mod_init_40 ?_
  refine V_putF (ty := (.array .int)) C 4 8 ((hs_ne _ _ (by omega)).trans (hs_eq _ _ _)) rfl in_Mod t_Mod tok_Mod nm_Mod (by decide) w_Mod_init_42 rfl rfl rfl rfl (by decide +kernel) rfl rfl (Nat.le_of_ble_eq_true rfl) d_Mod_init_42 ?_
  refine V_aload_n C d_Mod_init_45 rfl rfl ?_
  refine V_bipush (z := 80) C d_Mod_init_46 rfl ?_
  refine V_newI C (N := 80) rfl (by decide) wa_I (by decide) (by decide) d_Mod_init_48 ?_
  refine V_putF (ty := (.array .int)) C 4 9 ((hs_ne _ _ (by omega)).trans (hs_eq _ _ _)) rfl in_Mod t_Mod tok_Mod nm_Mod (by decide) w_Mod_init_50 rfl rfl rfl rfl (by decide +kernel) rfl rfl (Nat.le_of_ble_eq_true rfl) d_Mod_init_50 ?_
  refine V_aload_n C d_Mod_init_53 rfl rfl ?_
  refine V_bipush (z := 80) C d_Mod_init_54 rfl ?_
  refine V_newI C (N := 80) rfl (by decide) wa_I (by decide) (by decide) d_Mod_init_56 ?_
  refine V_putF (ty := (.array .int)) C 4 10 ((hs_ne _ _ (by omega)).trans (hs_eq _ _ _)) rfl in_Mod t_Mod tok_Mod nm_Mod (by decide) w_Mod_init_58 rfl rfl rfl rfl (by decide +kernel) rfl rfl (Nat.le_of_ble_eq_true rfl) d_Mod_init_58 ?_
  refine V_aload_n C d_Mod_init_61 rfl rfl ?_
  refine V_bipush (z := 48) C d_Mod_init_62 rfl ?_
  refine V_newZ C (N := 48) rfl (by decide) wa_Z (by decide) (by decide) d_Mod_init_64 ?_
  refine V_putF (ty := (.array .boolean)) C 4 11 ((hs_ne _ _ (by omega)).trans (hs_eq _ _ _)) rfl in_Mod t_Mod tok_Mod nm_Mod (by decide) w_Mod_init_66 rfl rfl rfl rfl (by decide +kernel) rfl rfl (Nat.le_of_ble_eq_true rfl) d_Mod_init_66 ?_
  refine V_return C d_Mod_init_69 (by decide) (by decide) ⟨rfl, rfl, ⟨YS.mk 0 0 0 0 (fun _ => 0) (fun _ => 0) (fun _ => 0) (fun _ => 0) (fun _ => 0) (fun _ => 0) (fun _ => 0) (fun _ => 0), ⟨?_, ?_, ?_, ?_, ?_, ?_, ?_, ?_, ?_⟩, ⟨rfl, rfl, rfl, fun i hi => absurd hi (Nat.not_lt_zero _), fun i hi => absurd hi (Nat.not_lt_zero _), fun i hi => absurd hi (Nat.not_lt_zero _), fun t ht => ⟨Int.le_refl _, by show (0 : Int) < 10; omega⟩, fun i hi => absurd hi (Nat.not_lt_zero _), fun i hi => absurd hi (Nat.not_lt_zero _)⟩, rfl⟩, fun k hk => ?_⟩
  · rw [hs_eq]; rfl
  · rw [hs_ne _ _ (by omega), hs_ne _ _ (by omega), hs_ne _ _ (by omega), hs_ne _ _ (by omega), hs_ne _ _ (by omega), hs_ne _ _ (by omega), hs_ne _ _ (by omega), hs_ne _ _ (by omega), hs_ne _ _ (by omega), hs_ne _ _ (by omega), hs_ne _ _ (by omega), hs_ne _ _ (by omega), hs_ne _ _ (by omega), hs_ne _ _ (by omega), hs_ne _ _ (by omega), hs_eq]; rfl
  · rw [hs_ne _ _ (by omega), hs_ne _ _ (by omega), hs_ne _ _ (by omega), hs_ne _ _ (by omega), hs_ne _ _ (by omega), hs_ne _ _ (by omega), hs_ne _ _ (by omega), hs_ne _ _ (by omega), hs_ne _ _ (by omega), hs_ne _ _ (by omega), hs_ne _ _ (by omega), hs_ne _ _ (by omega), hs_ne _ _ (by omega), hs_eq]; rfl
  · rw [hs_ne _ _ (by omega), hs_ne _ _ (by omega), hs_ne _ _ (by omega), hs_ne _ _ (by omega), hs_ne _ _ (by omega), hs_ne _ _ (by omega), hs_ne _ _ (by omega), hs_ne _ _ (by omega), hs_ne _ _ (by omega), hs_ne _ _ (by omega), hs_ne _ _ (by omega), hs_eq]; rfl
  · rw [hs_ne _ _ (by omega), hs_ne _ _ (by omega), hs_ne _ _ (by omega), hs_ne _ _ (by omega), hs_ne _ _ (by omega), hs_ne _ _ (by omega), hs_ne _ _ (by omega), hs_ne _ _ (by omega), hs_ne _ _ (by omega), hs_eq]; rfl
  · rw [hs_ne _ _ (by omega), hs_ne _ _ (by omega), hs_ne _ _ (by omega), hs_ne _ _ (by omega), hs_ne _ _ (by omega), hs_ne _ _ (by omega), hs_ne _ _ (by omega), hs_eq]; rfl
  · rw [hs_ne _ _ (by omega), hs_ne _ _ (by omega), hs_ne _ _ (by omega), hs_ne _ _ (by omega), hs_ne _ _ (by omega), hs_eq]; rfl
  · rw [hs_ne _ _ (by omega), hs_ne _ _ (by omega), hs_ne _ _ (by omega), hs_eq]; rfl
  · rw [hs_ne _ _ (by omega), hs_eq]; rfl
  · rw [hs_ne _ _ (by omega), hs_ne _ _ (by omega), hs_ne _ _ (by omega), hs_ne _ _ (by omega), hs_ne _ _ (by omega), hs_ne _ _ (by omega), hs_ne _ _ (by omega), hs_ne _ _ (by omega), hs_ne _ _ (by omega), hs_ne _ _ (by omega), hs_ne _ _ (by omega), hs_ne _ _ (by omega), hs_ne _ _ (by omega), hs_ne _ _ (by omega), hs_ne _ _ (by omega), hs_ne _ _ (by omega)]
end ModR
