theorem Rel0 : Rel mX0 mM0 := sorry
theorem e_read {X Y : mMem} (h : Rel X Y)  : ∃ r X' Y', fG_read X  = some (r, X') ∧ fM_read Y  = some (r, Y') ∧ Rel X' Y' := sorry
theorem e_worth {X Y : mMem} (h : Rel X Y) (a1 : Int32) (a2 : Int32) (a3 : Int32) : ∃ r X' Y', fG_worth X a1 a2 a3 = some (r, X') ∧ fM_worth Y a1 a2 a3 = some (r, Y') ∧ Rel X' Y' := sorry
theorem e_batch {X Y : mMem} (h : Rel X Y) (a1 : Int32) : ∃ r X' Y', fG_batch X a1 = some (r, X') ∧ fM_batch Y a1 = some (r, Y') ∧ Rel X' Y' := sorry
theorem e_test {X Y : mMem} (h : Rel X Y) (a1 : Int32) (a2 : Int32) : ∃ r X' Y', fG_test X a1 a2 = some (r, X') ∧ fM_test Y a1 a2 = some (r, Y') ∧ Rel X' Y' := sorry
theorem e_fired {X Y : mMem} (h : Rel X Y) (a1 : Int32) (a2 : Int32) : ∃ r, fG_fired X a1 a2 = some r ∧ fM_fired Y a1 a2 = some r := sorry
theorem e_count {X Y : mMem} (h : Rel X Y) (a1 : Int32) : ∃ r X' Y', fG_count X a1 = some (r, X') ∧ fM_count Y a1 = some (r, Y') ∧ Rel X' Y' := sorry
