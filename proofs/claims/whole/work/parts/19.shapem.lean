/-! the reference: its cells -/
noncomputable def fuP : Nat := Classical.choose (p := fun n : Nat => n = 20002) ⟨_, rfl⟩
theorem fuP_eq : fuP = 20002 := Classical.choose_spec (p := fun n : Nat => n = 20002) ⟨_, rfl⟩
def shM : sh_T := [.inr (10, [none, none, none, none, none, none, none, none, none, none, none, some (1, false), some (2, false), some (3, false), some (4, false), some (7, false), some (10, false), none, some (11, false), some (16, false), none, none, none, none, some (21, false), none, none, none, none, none, none, none, none, some (22, false), none, none]),
  .inl (0, 6219),
  .inl (0, 2048),
  .inl (0, 1000),
  .inr (9, [some (5, false), none, none, none, none, some (6, false), none, none, some (1, true), none, some (3, false), none, none, none, none, none, none, none, none, none]),
  .inl (0, 32),
  .inl (0, 1024),
  .inr (9, [some (8, false), none, none, none, none, some (9, false), none, none, some (10, true), none, some (3, false), none, none, none, none, none, none, none, none, none]),
  .inl (0, 32),
  .inl (0, 1024),
  .inl (0, 2048),
  .inr (8, [none, some (12, false), some (13, false), some (14, false), some (15, false)]),
  .inl (0, 400),
  .inl (0, 400),
  .inl (0, 400),
  .inl (1, 25600),
  .inr (8, [none, some (17, false), some (18, false), some (19, false), some (20, false)]),
  .inl (0, 400),
  .inl (0, 400),
  .inl (0, 400),
  .inl (1, 25600),
  .inl (2, 2048),
  .inl (1, 8200)]
theorem shM_len : shM.length = 23 := rfl
def isA (ka kn kl kb ky : Nat) : Prop := shM[ka]? = some (.inr (8, [none, some (kn, false), some (kl, false), some (kb, false), some (ky, false)])) ∧ shM[kn]? = some (.inl (0, 400)) ∧ shM[kl]? = some (.inl (0, 400)) ∧ shM[kb]? = some (.inl (0, 400)) ∧ shM[ky]? = some (.inl (1, 25600))
def isH (kg kx kr ko n : Nat) : Prop := shM[kg]? = some (.inr (9, [some (kx, false), none, none, none, none, some (kr, false), none, none, some (ko, true), none, some (3, false), none, none, none, none, none, none, none, none, none])) ∧ shM[kx]? = some (.inl (0, 32)) ∧ shM[kr]? = some (.inl (0, 1024)) ∧ shM[ko]? = some (.inl (0, n))
