/-! all calls; the ground's is given -/
set_option maxRecDepth 100000 in
set_option maxHeartbeats 400000 in
theorem law_all {L : Nat} (hg : lawStp L 87 156 Inv []) : lawAll L Inv := ⟨fun _ => row_step L _ _ _, fun _ => set_step L _ _ _, fun _ => copy_step L _ _ _ _ _, fun _ => drop_step L _, fun _ => feed_step L _ _, fun _ => hg, fun _ => fault_step L, fun _ => takes_step L _ _, fun _ => judge_step L _ _ _ _, fun _ => lay_step L _ _ _ _, fun _ => lift_step L _, fun _ => man_step L _ _, fun _ => whose_step L _, fun _ => most_step L _ _ _, fun _ => tied_step L _, fun _ => shares_step L _, fun _ => least_step L _ _ _, fun _ => wet_step L _ _, fun _ => found_step L _ _ _ _, fun _ => image_step L _, fun _ => restore_step L _, fun _ => kind_step L _, fun _ => as_step L _ _, fun _ => ask_step L _ _, fun _ => trace_step L _, fun _ => count_step L _, fun _ => status_step L⟩
set_option maxRecDepth 100000 in
set_option maxHeartbeats 400000 in
theorem law_end {L : Nat} (hL : L ≤ 3072) (hg : lawStp L 87 156 Inv []) (xs : Nat → Int32) : ∃ h', ev 1000 218 0 [.ref 0, .null, .null, .null] [] (oldS L) (hB0 xs) = some (some (.int 1), S0 L, h') := law_done hL Inv (law_all hg) xs (Inv_hm xs)
