theorem gcst : cstR gS19 := ⟨fun k hk => ⟨tbL_l (T := nmT) (n := 128) hk, tbI_l (T := shT) (n := 128) hk, tbI_l (T := ptT) (n := 128) hk⟩, fun k hk => tbI_l (T := rgT) (n := 32) hk, Or.inl rfl, Or.inl rfl, Or.inl rfl, Or.inl rfl⟩

theorem fb8_z : fb8 0 := by
  unfold fb8
  decide
/-- class and reference as their constructors leave them: the joint invariant -/
theorem jg_0 (n y y2 : Nat) (A2 : Nat → Nat → Nat) : JJ n (gS12 y y2 A2) (gS19, fun _ => none) := jj_begin n (σ := gS12 y y2 A2) (τ := gS19) (x := fun _ => none) rfl rfl rfl rfl rfl rfl rfl rfl rfl rfl (fun _ _ => rfl) (fun _ _ => rfl) (fun _ _ => rfl) (fun _ _ => rfl) (fun q h => if_pos h) (fun q h => if_pos h) (fun q h => if_pos h) rfl rfl rfl rfl rfl rfl ⟨fun _ _ => fb8_z, fun _ _ => fb8_z, fun _ _ => fb8_z, fun _ _ => fb8_z, fun _ _ => fb8_z⟩ rfl (fun _ _ => rfl) (fun j _ => ⟨0, by show (0 : Int32) = vp_nar FieldType.byte (Int32.toInt8 0).toInt32; decide⟩) (Or.inl rfl) gcst
theorem bw_0 : BW (16, 0, nd_st0) := ⟨0, rfl, rfl, by decide, Or.inl rfl, fun j => by show fits FieldType.byte (Value.int 0) = true; decide⟩
theorem tp_0 (y y2 : Nat) (A2 : Nat → Nat → Nat) : tp (gS12 y y2 A2) = 0 := rfl

