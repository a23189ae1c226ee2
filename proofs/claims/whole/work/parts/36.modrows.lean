section MROWS
variable {sc : AC} {F : FlS} {s c : OpS} {th be qu : Nat → Int32} {mo : Int32} {li : Nat → LiS} {M : MoS} {i v : Int32} {z : Int64}
theorem gM0 : fld (hp sc F s c th be qu mo li (hM M)) 61 5 0 = some (.ref 62) := rfl
theorem gM1 : fld (hp sc F s c th be qu mo li (hM M)) 61 5 1 = some (.ref 63) := rfl
theorem gM2 : fld (hp sc F s c th be qu mo li (hM M)) 61 5 2 = some (.int M.2.2.1.1) := rfl
theorem gM3 : fld (hp sc F s c th be qu mo li (hM M)) 61 5 3 = some (.int M.2.2.1.2.1) := rfl
theorem gM4 : fld (hp sc F s c th be qu mo li (hM M)) 61 5 4 = some (.int M.2.2.1.2.2.1) := rfl
theorem gM5 : fld (hp sc F s c th be qu mo li (hM M)) 61 5 5 = some (.int M.2.2.1.2.2.2.1) := rfl
theorem gM6 : fld (hp sc F s c th be qu mo li (hM M)) 61 5 6 = some (.int M.2.2.1.2.2.2.2) := rfl
theorem gM7 : fld (hp sc F s c th be qu mo li (hM M)) 61 5 7 = some (.ref 64) := rfl
theorem gM8 : fld (hp sc F s c th be qu mo li (hM M)) 61 5 8 = some (.ref 65) := rfl
theorem gM9 : fld (hp sc F s c th be qu mo li (hM M)) 61 5 9 = some (.ref 66) := rfl
theorem gM10 : fld (hp sc F s c th be qu mo li (hM M)) 61 5 10 = some (.ref 67) := rfl
theorem gM11 : fld (hp sc F s c th be qu mo li (hM M)) 61 5 11 = some (.int M.2.2.2.2.1.1) := rfl
theorem gM12 : fld (hp sc F s c th be qu mo li (hM M)) 61 5 12 = some (.int M.2.2.2.2.1.2.1) := rfl
theorem gM13 : fld (hp sc F s c th be qu mo li (hM M)) 61 5 13 = some (.int M.2.2.2.2.1.2.2.1) := rfl
theorem gM14 : fld (hp sc F s c th be qu mo li (hM M)) 61 5 14 = some (.int M.2.2.2.2.1.2.2.2) := rfl
theorem gM15 : fld (hp sc F s c th be qu mo li (hM M)) 61 5 15 = some (.ref 68) := rfl
theorem gM16 : fld (hp sc F s c th be qu mo li (hM M)) 61 5 16 = some (.int M.2.2.2.2.2.1.2) := rfl
theorem gM17 : fld (hp sc F s c th be qu mo li (hM M)) 61 5 17 = some (.ref 69) := rfl
theorem gM18 : fld (hp sc F s c th be qu mo li (hM M)) 61 5 18 = some (.int M.2.2.2.2.2.2.2) := rfl
theorem iM : isO (hp sc F s c th be qu mo li (hM M)) 61 5 = true := id rfl
theorem sM5 : stf (hp sc F s c th be qu mo li (hM M)) 61 5 5 (.int v) = some (hp sc F s c th be qu mo li (hM (M.1, (M.2.1, ((M.2.2.1.1, (M.2.2.1.2.1, (M.2.2.1.2.2.1, (v, M.2.2.1.2.2.2.2)))), M.2.2.2))))) := stf_of rfl (okF_int rfl) (by decide) (Nat.le_of_ble_eq_true rfl) rfl
theorem sM6 : stf (hp sc F s c th be qu mo li (hM M)) 61 5 6 (.int v) = some (hp sc F s c th be qu mo li (hM (M.1, (M.2.1, ((M.2.2.1.1, (M.2.2.1.2.1, (M.2.2.1.2.2.1, (M.2.2.1.2.2.2.1, v)))), M.2.2.2))))) := stf_of rfl (okF_int rfl) (by decide) (Nat.le_of_ble_eq_true rfl) rfl
theorem sM11 : stf (hp sc F s c th be qu mo li (hM M)) 61 5 11 (.int v) = some (hp sc F s c th be qu mo li (hM (M.1, (M.2.1, (M.2.2.1, (M.2.2.2.1, ((v, M.2.2.2.2.1.2), M.2.2.2.2.2))))))) := stf_of rfl (okF_int rfl) (by decide) (Nat.le_of_ble_eq_true rfl) rfl
theorem sM12 : stf (hp sc F s c th be qu mo li (hM M)) 61 5 12 (.int v) = some (hp sc F s c th be qu mo li (hM (M.1, (M.2.1, (M.2.2.1, (M.2.2.2.1, ((M.2.2.2.2.1.1, (v, M.2.2.2.2.1.2.2)), M.2.2.2.2.2))))))) := stf_of rfl (okF_int rfl) (by decide) (Nat.le_of_ble_eq_true rfl) rfl
theorem sM13 : stf (hp sc F s c th be qu mo li (hM M)) 61 5 13 (.int v) = some (hp sc F s c th be qu mo li (hM (M.1, (M.2.1, (M.2.2.1, (M.2.2.2.1, ((M.2.2.2.2.1.1, (M.2.2.2.2.1.2.1, (v, M.2.2.2.2.1.2.2.2))), M.2.2.2.2.2))))))) := stf_of rfl (okF_int rfl) (by decide) (Nat.le_of_ble_eq_true rfl) rfl
theorem sM14 : stf (hp sc F s c th be qu mo li (hM M)) 61 5 14 (.int v) = some (hp sc F s c th be qu mo li (hM (M.1, (M.2.1, (M.2.2.1, (M.2.2.2.1, ((M.2.2.2.2.1.1, (M.2.2.2.2.1.2.1, (M.2.2.2.2.1.2.2.1, v))), M.2.2.2.2.2))))))) := stf_of rfl (okF_int rfl) (by decide) (Nat.le_of_ble_eq_true rfl) rfl
theorem sM16 : stf (hp sc F s c th be qu mo li (hM M)) 61 5 16 (.int v) = some (hp sc F s c th be qu mo li (hM (M.1, (M.2.1, (M.2.2.1, (M.2.2.2.1, (M.2.2.2.2.1, ((M.2.2.2.2.2.1.1, v), M.2.2.2.2.2.2)))))))) := stf_of rfl (okF_int rfl) (by decide) (Nat.le_of_ble_eq_true rfl) rfl
theorem sM18 : stf (hp sc F s c th be qu mo li (hM M)) 61 5 18 (.int v) = some (hp sc F s c th be qu mo li (hM (M.1, (M.2.1, (M.2.2.1, (M.2.2.2.1, (M.2.2.2.2.1, (M.2.2.2.2.2.1, (M.2.2.2.2.2.2.1, v))))))))) := stf_of rfl (okF_int rfl) (by decide) (Nat.le_of_ble_eq_true rfl) rfl
theorem sM2_0 : stf (hp sc F s c th be qu mo li (hM M)) 61 5 2 (.int 0) = some (hp sc F s c th be qu mo li (hM (M.1, (M.2.1, ((0, M.2.2.1.2), M.2.2.2))))) := stf_of rfl (okF_bool rfl (Or.inl rfl)) (by decide) (Nat.le_of_ble_eq_true rfl) rfl
theorem sM2_1 : stf (hp sc F s c th be qu mo li (hM M)) 61 5 2 (.int 1) = some (hp sc F s c th be qu mo li (hM (M.1, (M.2.1, ((1, M.2.2.1.2), M.2.2.2))))) := stf_of rfl (okF_bool rfl (Or.inr rfl)) (by decide) (Nat.le_of_ble_eq_true rfl) rfl
theorem sM3_0 : stf (hp sc F s c th be qu mo li (hM M)) 61 5 3 (.int 0) = some (hp sc F s c th be qu mo li (hM (M.1, (M.2.1, ((M.2.2.1.1, (0, M.2.2.1.2.2)), M.2.2.2))))) := stf_of rfl (okF_bool rfl (Or.inl rfl)) (by decide) (Nat.le_of_ble_eq_true rfl) rfl
theorem sM3_1 : stf (hp sc F s c th be qu mo li (hM M)) 61 5 3 (.int 1) = some (hp sc F s c th be qu mo li (hM (M.1, (M.2.1, ((M.2.2.1.1, (1, M.2.2.1.2.2)), M.2.2.2))))) := stf_of rfl (okF_bool rfl (Or.inr rfl)) (by decide) (Nat.le_of_ble_eq_true rfl) rfl
theorem sM4_0 : stf (hp sc F s c th be qu mo li (hM M)) 61 5 4 (.int 0) = some (hp sc F s c th be qu mo li (hM (M.1, (M.2.1, ((M.2.2.1.1, (M.2.2.1.2.1, (0, M.2.2.1.2.2.2))), M.2.2.2))))) := stf_of rfl (okF_bool rfl (Or.inl rfl)) (by decide) (Nat.le_of_ble_eq_true rfl) rfl
theorem sM4_1 : stf (hp sc F s c th be qu mo li (hM M)) 61 5 4 (.int 1) = some (hp sc F s c th be qu mo li (hM (M.1, (M.2.1, ((M.2.2.1.1, (M.2.2.1.2.1, (1, M.2.2.1.2.2.2))), M.2.2.2))))) := stf_of rfl (okF_bool rfl (Or.inr rfl)) (by decide) (Nat.le_of_ble_eq_true rfl) rfl
theorem a62 (hi : inB i 1024 = true) : ald (hp sc F s c th be qu mo li (hM M)) 62 .int i = some (.int (M.1 i.toNatClampNeg)) := ald_of (f := fun j => .int (M.1 j)) rfl hi
theorem t62 (hi : inB i 1024 = true) : ast (hp sc F s c th be qu mo li (hM M)) 62 .int i (.int v) = some (hp sc F s c th be qu mo li (hM (upd M.1 i.toNatClampNeg v, M.2))) := ast_of (f := fun j => .int (M.1 j)) rfl hi (by decide) rfl (by rw [updV_int]; rfl)
theorem a63 (hi : inB i 16 = true) : ald (hp sc F s c th be qu mo li (hM M)) 63 .int i = some (.int (M.2.1 i.toNatClampNeg)) := ald_of (f := fun j => .int (M.2.1 j)) rfl hi
theorem t63 (hi : inB i 16 = true) : ast (hp sc F s c th be qu mo li (hM M)) 63 .int i (.int v) = some (hp sc F s c th be qu mo li (hM (M.1, (upd M.2.1 i.toNatClampNeg v, M.2.2)))) := ast_of (f := fun j => .int (M.2.1 j)) rfl hi (by decide) rfl (by rw [updV_int]; rfl)
theorem a64 (hi : inB i 4 = true) : ald (hp sc F s c th be qu mo li (hM M)) 64 .int i = some (.int (M.2.2.2.1.1 i.toNatClampNeg)) := ald_of (f := fun j => .int (M.2.2.2.1.1 j)) rfl hi
theorem t64 (hi : inB i 4 = true) : ast (hp sc F s c th be qu mo li (hM M)) 64 .int i (.int v) = some (hp sc F s c th be qu mo li (hM (M.1, (M.2.1, (M.2.2.1, ((upd M.2.2.2.1.1 i.toNatClampNeg v, M.2.2.2.1.2), M.2.2.2.2)))))) := ast_of (f := fun j => .int (M.2.2.2.1.1 j)) rfl hi (by decide) rfl (by rw [updV_int]; rfl)
theorem a65 (hi : inB i 4 = true) : ald (hp sc F s c th be qu mo li (hM M)) 65 .int i = some (.int (M.2.2.2.1.2.1 i.toNatClampNeg)) := ald_of (f := fun j => .int (M.2.2.2.1.2.1 j)) rfl hi
theorem t65 (hi : inB i 4 = true) : ast (hp sc F s c th be qu mo li (hM M)) 65 .int i (.int v) = some (hp sc F s c th be qu mo li (hM (M.1, (M.2.1, (M.2.2.1, ((M.2.2.2.1.1, (upd M.2.2.2.1.2.1 i.toNatClampNeg v, M.2.2.2.1.2.2)), M.2.2.2.2)))))) := ast_of (f := fun j => .int (M.2.2.2.1.2.1 j)) rfl hi (by decide) rfl (by rw [updV_int]; rfl)
theorem a66 (hi : inB i 4 = true) : ald (hp sc F s c th be qu mo li (hM M)) 66 .int i = some (.int (M.2.2.2.1.2.2.1 i.toNatClampNeg)) := ald_of (f := fun j => .int (M.2.2.2.1.2.2.1 j)) rfl hi
theorem t66 (hi : inB i 4 = true) : ast (hp sc F s c th be qu mo li (hM M)) 66 .int i (.int v) = some (hp sc F s c th be qu mo li (hM (M.1, (M.2.1, (M.2.2.1, ((M.2.2.2.1.1, (M.2.2.2.1.2.1, (upd M.2.2.2.1.2.2.1 i.toNatClampNeg v, M.2.2.2.1.2.2.2))), M.2.2.2.2)))))) := ast_of (f := fun j => .int (M.2.2.2.1.2.2.1 j)) rfl hi (by decide) rfl (by rw [updV_int]; rfl)
theorem a68 (hi : inB i 32 = true) : ald (hp sc F s c th be qu mo li (hM M)) 68 .int i = some (.int (M.2.2.2.2.2.1.1 i.toNatClampNeg)) := ald_of (f := fun j => .int (M.2.2.2.2.2.1.1 j)) rfl hi
theorem t68 (hi : inB i 32 = true) : ast (hp sc F s c th be qu mo li (hM M)) 68 .int i (.int v) = some (hp sc F s c th be qu mo li (hM (M.1, (M.2.1, (M.2.2.1, (M.2.2.2.1, (M.2.2.2.2.1, ((upd M.2.2.2.2.2.1.1 i.toNatClampNeg v, M.2.2.2.2.2.1.2), M.2.2.2.2.2.2)))))))) := ast_of (f := fun j => .int (M.2.2.2.2.2.1.1 j)) rfl hi (by decide) rfl (by rw [updV_int]; rfl)
theorem a69 (hi : inB i 64 = true) : ald (hp sc F s c th be qu mo li (hM M)) 69 .int i = some (.int (M.2.2.2.2.2.2.1 i.toNatClampNeg)) := ald_of (f := fun j => .int (M.2.2.2.2.2.2.1 j)) rfl hi
theorem t69 (hi : inB i 64 = true) : ast (hp sc F s c th be qu mo li (hM M)) 69 .int i (.int v) = some (hp sc F s c th be qu mo li (hM (M.1, (M.2.1, (M.2.2.1, (M.2.2.2.1, (M.2.2.2.2.1, (M.2.2.2.2.2.1, (upd M.2.2.2.2.2.2.1 i.toNatClampNeg v, M.2.2.2.2.2.2.2))))))))) := ast_of (f := fun j => .int (M.2.2.2.2.2.2.1 j)) rfl hi (by decide) rfl (by rw [updV_int]; rfl)
theorem a67 (hi : inB i 4 = true) : ald (hp sc F s c th be qu mo li (hM M)) 67 .long i = some (.long (M.2.2.2.1.2.2.2 i.toNatClampNeg)) := ald_of (f := fun j => .long (M.2.2.2.1.2.2.2 j)) rfl hi
theorem t67 (hi : inB i 4 = true) : ast (hp sc F s c th be qu mo li (hM M)) 67 .long i (.long z) = some (hp sc F s c th be qu mo li (hM (M.1, (M.2.1, (M.2.2.1, ((M.2.2.2.1.1, (M.2.2.2.1.2.1, (M.2.2.2.1.2.2.1, vp_updL M.2.2.2.1.2.2.2 i.toNatClampNeg z))), M.2.2.2.2)))))) := ast_of (f := fun j => .long (M.2.2.2.1.2.2.2 j)) rfl hi (by decide) rfl (by rw [updV_long]; rfl)
end MROWS
