/-! THE TOWN as a value: TERRACES; BRIDGES: there, lesser and greater end, LOAD, BENT; PEOPLE: there, place, KIN, what each KNOWS; NEWS: WEIGHT, about whom, PUBLISHED; FADE; SIGHTS: how many, of which BRIDGE, how much -/
abbrev XT : Type := (Nat) × (Nat → Bool) × (Nat → Nat) × (Nat → Nat) × (Nat → Nat) × (Nat → Nat) × (Nat → Bool) × (Nat → Nat) × (Nat → Nat) × (Nat → Nat → Bool) × (Nat → Int) × (Nat → Nat) × (Nat → Bool) × (Nat) × (Nat) × (Nat → Nat) × (Nat → Nat)
def x_sz (X : XT) : Nat := X.1
def x_br (X : XT) : Nat → Bool := X.2.1
def x_lo (X : XT) : Nat → Nat := X.2.2.1
def x_hi (X : XT) : Nat → Nat := X.2.2.2.1
def x_ld (X : XT) : Nat → Nat := X.2.2.2.2.1
def x_bn (X : XT) : Nat → Nat := X.2.2.2.2.2.1
def x_th (X : XT) : Nat → Bool := X.2.2.2.2.2.2.1
def x_pl (X : XT) : Nat → Nat := X.2.2.2.2.2.2.2.1
def x_ki (X : XT) : Nat → Nat := X.2.2.2.2.2.2.2.2.1
def x_kn (X : XT) : Nat → Nat → Bool := X.2.2.2.2.2.2.2.2.2.1
def x_wt (X : XT) : Nat → Int := X.2.2.2.2.2.2.2.2.2.2.1
def x_ab (X : XT) : Nat → Nat := X.2.2.2.2.2.2.2.2.2.2.2.1
def x_pu (X : XT) : Nat → Bool := X.2.2.2.2.2.2.2.2.2.2.2.2.1
def x_fa (X : XT) : Nat := X.2.2.2.2.2.2.2.2.2.2.2.2.2.1
def x_sg (X : XT) : Nat := X.2.2.2.2.2.2.2.2.2.2.2.2.2.2.1
def x_sb (X : XT) : Nat → Nat := X.2.2.2.2.2.2.2.2.2.2.2.2.2.2.2.1
def x_sv (X : XT) : Nat → Nat := X.2.2.2.2.2.2.2.2.2.2.2.2.2.2.2.2
def xs_sz (X : XT) (v : Nat) : XT := (v, X.2.1, X.2.2.1, X.2.2.2.1, X.2.2.2.2.1, X.2.2.2.2.2.1, X.2.2.2.2.2.2.1, X.2.2.2.2.2.2.2.1, X.2.2.2.2.2.2.2.2.1, X.2.2.2.2.2.2.2.2.2.1, X.2.2.2.2.2.2.2.2.2.2.1, X.2.2.2.2.2.2.2.2.2.2.2.1, X.2.2.2.2.2.2.2.2.2.2.2.2.1, X.2.2.2.2.2.2.2.2.2.2.2.2.2.1, X.2.2.2.2.2.2.2.2.2.2.2.2.2.2.1, X.2.2.2.2.2.2.2.2.2.2.2.2.2.2.2.1, X.2.2.2.2.2.2.2.2.2.2.2.2.2.2.2.2)
def xs_br (X : XT) (v : Nat → Bool) : XT := (X.1, v, X.2.2.1, X.2.2.2.1, X.2.2.2.2.1, X.2.2.2.2.2.1, X.2.2.2.2.2.2.1, X.2.2.2.2.2.2.2.1, X.2.2.2.2.2.2.2.2.1, X.2.2.2.2.2.2.2.2.2.1, X.2.2.2.2.2.2.2.2.2.2.1, X.2.2.2.2.2.2.2.2.2.2.2.1, X.2.2.2.2.2.2.2.2.2.2.2.2.1, X.2.2.2.2.2.2.2.2.2.2.2.2.2.1, X.2.2.2.2.2.2.2.2.2.2.2.2.2.2.1, X.2.2.2.2.2.2.2.2.2.2.2.2.2.2.2.1, X.2.2.2.2.2.2.2.2.2.2.2.2.2.2.2.2)
def xs_lo (X : XT) (v : Nat → Nat) : XT := (X.1, X.2.1, v, X.2.2.2.1, X.2.2.2.2.1, X.2.2.2.2.2.1, X.2.2.2.2.2.2.1, X.2.2.2.2.2.2.2.1, X.2.2.2.2.2.2.2.2.1, X.2.2.2.2.2.2.2.2.2.1, X.2.2.2.2.2.2.2.2.2.2.1, X.2.2.2.2.2.2.2.2.2.2.2.1, X.2.2.2.2.2.2.2.2.2.2.2.2.1, X.2.2.2.2.2.2.2.2.2.2.2.2.2.1, X.2.2.2.2.2.2.2.2.2.2.2.2.2.2.1, X.2.2.2.2.2.2.2.2.2.2.2.2.2.2.2.1, X.2.2.2.2.2.2.2.2.2.2.2.2.2.2.2.2)
def xs_hi (X : XT) (v : Nat → Nat) : XT := (X.1, X.2.1, X.2.2.1, v, X.2.2.2.2.1, X.2.2.2.2.2.1, X.2.2.2.2.2.2.1, X.2.2.2.2.2.2.2.1, X.2.2.2.2.2.2.2.2.1, X.2.2.2.2.2.2.2.2.2.1, X.2.2.2.2.2.2.2.2.2.2.1, X.2.2.2.2.2.2.2.2.2.2.2.1, X.2.2.2.2.2.2.2.2.2.2.2.2.1, X.2.2.2.2.2.2.2.2.2.2.2.2.2.1, X.2.2.2.2.2.2.2.2.2.2.2.2.2.2.1, X.2.2.2.2.2.2.2.2.2.2.2.2.2.2.2.1, X.2.2.2.2.2.2.2.2.2.2.2.2.2.2.2.2)
def xs_ld (X : XT) (v : Nat → Nat) : XT := (X.1, X.2.1, X.2.2.1, X.2.2.2.1, v, X.2.2.2.2.2.1, X.2.2.2.2.2.2.1, X.2.2.2.2.2.2.2.1, X.2.2.2.2.2.2.2.2.1, X.2.2.2.2.2.2.2.2.2.1, X.2.2.2.2.2.2.2.2.2.2.1, X.2.2.2.2.2.2.2.2.2.2.2.1, X.2.2.2.2.2.2.2.2.2.2.2.2.1, X.2.2.2.2.2.2.2.2.2.2.2.2.2.1, X.2.2.2.2.2.2.2.2.2.2.2.2.2.2.1, X.2.2.2.2.2.2.2.2.2.2.2.2.2.2.2.1, X.2.2.2.2.2.2.2.2.2.2.2.2.2.2.2.2)
def xs_bn (X : XT) (v : Nat → Nat) : XT := (X.1, X.2.1, X.2.2.1, X.2.2.2.1, X.2.2.2.2.1, v, X.2.2.2.2.2.2.1, X.2.2.2.2.2.2.2.1, X.2.2.2.2.2.2.2.2.1, X.2.2.2.2.2.2.2.2.2.1, X.2.2.2.2.2.2.2.2.2.2.1, X.2.2.2.2.2.2.2.2.2.2.2.1, X.2.2.2.2.2.2.2.2.2.2.2.2.1, X.2.2.2.2.2.2.2.2.2.2.2.2.2.1, X.2.2.2.2.2.2.2.2.2.2.2.2.2.2.1, X.2.2.2.2.2.2.2.2.2.2.2.2.2.2.2.1, X.2.2.2.2.2.2.2.2.2.2.2.2.2.2.2.2)
def xs_th (X : XT) (v : Nat → Bool) : XT := (X.1, X.2.1, X.2.2.1, X.2.2.2.1, X.2.2.2.2.1, X.2.2.2.2.2.1, v, X.2.2.2.2.2.2.2.1, X.2.2.2.2.2.2.2.2.1, X.2.2.2.2.2.2.2.2.2.1, X.2.2.2.2.2.2.2.2.2.2.1, X.2.2.2.2.2.2.2.2.2.2.2.1, X.2.2.2.2.2.2.2.2.2.2.2.2.1, X.2.2.2.2.2.2.2.2.2.2.2.2.2.1, X.2.2.2.2.2.2.2.2.2.2.2.2.2.2.1, X.2.2.2.2.2.2.2.2.2.2.2.2.2.2.2.1, X.2.2.2.2.2.2.2.2.2.2.2.2.2.2.2.2)
def xs_pl (X : XT) (v : Nat → Nat) : XT := (X.1, X.2.1, X.2.2.1, X.2.2.2.1, X.2.2.2.2.1, X.2.2.2.2.2.1, X.2.2.2.2.2.2.1, v, X.2.2.2.2.2.2.2.2.1, X.2.2.2.2.2.2.2.2.2.1, X.2.2.2.2.2.2.2.2.2.2.1, X.2.2.2.2.2.2.2.2.2.2.2.1, X.2.2.2.2.2.2.2.2.2.2.2.2.1, X.2.2.2.2.2.2.2.2.2.2.2.2.2.1, X.2.2.2.2.2.2.2.2.2.2.2.2.2.2.1, X.2.2.2.2.2.2.2.2.2.2.2.2.2.2.2.1, X.2.2.2.2.2.2.2.2.2.2.2.2.2.2.2.2)
def xs_ki (X : XT) (v : Nat → Nat) : XT := (X.1, X.2.1, X.2.2.1, X.2.2.2.1, X.2.2.2.2.1, X.2.2.2.2.2.1, X.2.2.2.2.2.2.1, X.2.2.2.2.2.2.2.1, v, X.2.2.2.2.2.2.2.2.2.1, X.2.2.2.2.2.2.2.2.2.2.1, X.2.2.2.2.2.2.2.2.2.2.2.1, X.2.2.2.2.2.2.2.2.2.2.2.2.1, X.2.2.2.2.2.2.2.2.2.2.2.2.2.1, X.2.2.2.2.2.2.2.2.2.2.2.2.2.2.1, X.2.2.2.2.2.2.2.2.2.2.2.2.2.2.2.1, X.2.2.2.2.2.2.2.2.2.2.2.2.2.2.2.2)
def xs_kn (X : XT) (v : Nat → Nat → Bool) : XT := (X.1, X.2.1, X.2.2.1, X.2.2.2.1, X.2.2.2.2.1, X.2.2.2.2.2.1, X.2.2.2.2.2.2.1, X.2.2.2.2.2.2.2.1, X.2.2.2.2.2.2.2.2.1, v, X.2.2.2.2.2.2.2.2.2.2.1, X.2.2.2.2.2.2.2.2.2.2.2.1, X.2.2.2.2.2.2.2.2.2.2.2.2.1, X.2.2.2.2.2.2.2.2.2.2.2.2.2.1, X.2.2.2.2.2.2.2.2.2.2.2.2.2.2.1, X.2.2.2.2.2.2.2.2.2.2.2.2.2.2.2.1, X.2.2.2.2.2.2.2.2.2.2.2.2.2.2.2.2)
def xs_wt (X : XT) (v : Nat → Int) : XT := (X.1, X.2.1, X.2.2.1, X.2.2.2.1, X.2.2.2.2.1, X.2.2.2.2.2.1, X.2.2.2.2.2.2.1, X.2.2.2.2.2.2.2.1, X.2.2.2.2.2.2.2.2.1, X.2.2.2.2.2.2.2.2.2.1, v, X.2.2.2.2.2.2.2.2.2.2.2.1, X.2.2.2.2.2.2.2.2.2.2.2.2.1, X.2.2.2.2.2.2.2.2.2.2.2.2.2.1, X.2.2.2.2.2.2.2.2.2.2.2.2.2.2.1, X.2.2.2.2.2.2.2.2.2.2.2.2.2.2.2.1, X.2.2.2.2.2.2.2.2.2.2.2.2.2.2.2.2)
def xs_ab (X : XT) (v : Nat → Nat) : XT := (X.1, X.2.1, X.2.2.1, X.2.2.2.1, X.2.2.2.2.1, X.2.2.2.2.2.1, X.2.2.2.2.2.2.1, X.2.2.2.2.2.2.2.1, X.2.2.2.2.2.2.2.2.1, X.2.2.2.2.2.2.2.2.2.1, X.2.2.2.2.2.2.2.2.2.2.1, v, X.2.2.2.2.2.2.2.2.2.2.2.2.1, X.2.2.2.2.2.2.2.2.2.2.2.2.2.1, X.2.2.2.2.2.2.2.2.2.2.2.2.2.2.1, X.2.2.2.2.2.2.2.2.2.2.2.2.2.2.2.1, X.2.2.2.2.2.2.2.2.2.2.2.2.2.2.2.2)
def xs_pu (X : XT) (v : Nat → Bool) : XT := (X.1, X.2.1, X.2.2.1, X.2.2.2.1, X.2.2.2.2.1, X.2.2.2.2.2.1, X.2.2.2.2.2.2.1, X.2.2.2.2.2.2.2.1, X.2.2.2.2.2.2.2.2.1, X.2.2.2.2.2.2.2.2.2.1, X.2.2.2.2.2.2.2.2.2.2.1, X.2.2.2.2.2.2.2.2.2.2.2.1, v, X.2.2.2.2.2.2.2.2.2.2.2.2.2.1, X.2.2.2.2.2.2.2.2.2.2.2.2.2.2.1, X.2.2.2.2.2.2.2.2.2.2.2.2.2.2.2.1, X.2.2.2.2.2.2.2.2.2.2.2.2.2.2.2.2)
def xs_fa (X : XT) (v : Nat) : XT := (X.1, X.2.1, X.2.2.1, X.2.2.2.1, X.2.2.2.2.1, X.2.2.2.2.2.1, X.2.2.2.2.2.2.1, X.2.2.2.2.2.2.2.1, X.2.2.2.2.2.2.2.2.1, X.2.2.2.2.2.2.2.2.2.1, X.2.2.2.2.2.2.2.2.2.2.1, X.2.2.2.2.2.2.2.2.2.2.2.1, X.2.2.2.2.2.2.2.2.2.2.2.2.1, v, X.2.2.2.2.2.2.2.2.2.2.2.2.2.2.1, X.2.2.2.2.2.2.2.2.2.2.2.2.2.2.2.1, X.2.2.2.2.2.2.2.2.2.2.2.2.2.2.2.2)
def xs_sg (X : XT) (v : Nat) : XT := (X.1, X.2.1, X.2.2.1, X.2.2.2.1, X.2.2.2.2.1, X.2.2.2.2.2.1, X.2.2.2.2.2.2.1, X.2.2.2.2.2.2.2.1, X.2.2.2.2.2.2.2.2.1, X.2.2.2.2.2.2.2.2.2.1, X.2.2.2.2.2.2.2.2.2.2.1, X.2.2.2.2.2.2.2.2.2.2.2.1, X.2.2.2.2.2.2.2.2.2.2.2.2.1, X.2.2.2.2.2.2.2.2.2.2.2.2.2.1, v, X.2.2.2.2.2.2.2.2.2.2.2.2.2.2.2.1, X.2.2.2.2.2.2.2.2.2.2.2.2.2.2.2.2)
def xs_sb (X : XT) (v : Nat → Nat) : XT := (X.1, X.2.1, X.2.2.1, X.2.2.2.1, X.2.2.2.2.1, X.2.2.2.2.2.1, X.2.2.2.2.2.2.1, X.2.2.2.2.2.2.2.1, X.2.2.2.2.2.2.2.2.1, X.2.2.2.2.2.2.2.2.2.1, X.2.2.2.2.2.2.2.2.2.2.1, X.2.2.2.2.2.2.2.2.2.2.2.1, X.2.2.2.2.2.2.2.2.2.2.2.2.1, X.2.2.2.2.2.2.2.2.2.2.2.2.2.1, X.2.2.2.2.2.2.2.2.2.2.2.2.2.2.1, v, X.2.2.2.2.2.2.2.2.2.2.2.2.2.2.2.2)
def xs_sv (X : XT) (v : Nat → Nat) : XT := (X.1, X.2.1, X.2.2.1, X.2.2.2.1, X.2.2.2.2.1, X.2.2.2.2.2.1, X.2.2.2.2.2.2.1, X.2.2.2.2.2.2.2.1, X.2.2.2.2.2.2.2.2.1, X.2.2.2.2.2.2.2.2.2.1, X.2.2.2.2.2.2.2.2.2.2.1, X.2.2.2.2.2.2.2.2.2.2.2.1, X.2.2.2.2.2.2.2.2.2.2.2.2.1, X.2.2.2.2.2.2.2.2.2.2.2.2.2.1, X.2.2.2.2.2.2.2.2.2.2.2.2.2.2.1, X.2.2.2.2.2.2.2.2.2.2.2.2.2.2.2.1, v)
theorem x_sz_sz (X : XT) (v : Nat) : x_sz (xs_sz X v) = v := Eq.trans (Eq.refl _) (Eq.refl _)
theorem x_br_sz (X : XT) (v : Nat) : x_br (xs_sz X v) = x_br X := Eq.trans (Eq.refl _) (Eq.refl _)
theorem x_lo_sz (X : XT) (v : Nat) : x_lo (xs_sz X v) = x_lo X := Eq.trans (Eq.refl _) (Eq.refl _)
theorem x_hi_sz (X : XT) (v : Nat) : x_hi (xs_sz X v) = x_hi X := Eq.trans (Eq.refl _) (Eq.refl _)
theorem x_ld_sz (X : XT) (v : Nat) : x_ld (xs_sz X v) = x_ld X := Eq.trans (Eq.refl _) (Eq.refl _)
theorem x_bn_sz (X : XT) (v : Nat) : x_bn (xs_sz X v) = x_bn X := Eq.trans (Eq.refl _) (Eq.refl _)
theorem x_th_sz (X : XT) (v : Nat) : x_th (xs_sz X v) = x_th X := Eq.trans (Eq.refl _) (Eq.refl _)
theorem x_pl_sz (X : XT) (v : Nat) : x_pl (xs_sz X v) = x_pl X := Eq.trans (Eq.refl _) (Eq.refl _)
theorem x_ki_sz (X : XT) (v : Nat) : x_ki (xs_sz X v) = x_ki X := Eq.trans (Eq.refl _) (Eq.refl _)
theorem x_kn_sz (X : XT) (v : Nat) : x_kn (xs_sz X v) = x_kn X := Eq.trans (Eq.refl _) (Eq.refl _)
theorem x_wt_sz (X : XT) (v : Nat) : x_wt (xs_sz X v) = x_wt X := Eq.trans (Eq.refl _) (Eq.refl _)
theorem x_ab_sz (X : XT) (v : Nat) : x_ab (xs_sz X v) = x_ab X := Eq.trans (Eq.refl _) (Eq.refl _)
theorem x_pu_sz (X : XT) (v : Nat) : x_pu (xs_sz X v) = x_pu X := Eq.trans (Eq.refl _) (Eq.refl _)
theorem x_fa_sz (X : XT) (v : Nat) : x_fa (xs_sz X v) = x_fa X := Eq.trans (Eq.refl _) (Eq.refl _)
theorem x_sg_sz (X : XT) (v : Nat) : x_sg (xs_sz X v) = x_sg X := Eq.trans (Eq.refl _) (Eq.refl _)
theorem x_sb_sz (X : XT) (v : Nat) : x_sb (xs_sz X v) = x_sb X := Eq.trans (Eq.refl _) (Eq.refl _)
theorem x_sv_sz (X : XT) (v : Nat) : x_sv (xs_sz X v) = x_sv X := Eq.trans (Eq.refl _) (Eq.refl _)
theorem x_sz_br (X : XT) (v : Nat → Bool) : x_sz (xs_br X v) = x_sz X := Eq.trans (Eq.refl _) (Eq.refl _)
theorem x_br_br (X : XT) (v : Nat → Bool) : x_br (xs_br X v) = v := Eq.trans (Eq.refl _) (Eq.refl _)
theorem x_lo_br (X : XT) (v : Nat → Bool) : x_lo (xs_br X v) = x_lo X := Eq.trans (Eq.refl _) (Eq.refl _)
theorem x_hi_br (X : XT) (v : Nat → Bool) : x_hi (xs_br X v) = x_hi X := Eq.trans (Eq.refl _) (Eq.refl _)
theorem x_ld_br (X : XT) (v : Nat → Bool) : x_ld (xs_br X v) = x_ld X := Eq.trans (Eq.refl _) (Eq.refl _)
theorem x_bn_br (X : XT) (v : Nat → Bool) : x_bn (xs_br X v) = x_bn X := Eq.trans (Eq.refl _) (Eq.refl _)
theorem x_th_br (X : XT) (v : Nat → Bool) : x_th (xs_br X v) = x_th X := Eq.trans (Eq.refl _) (Eq.refl _)
theorem x_pl_br (X : XT) (v : Nat → Bool) : x_pl (xs_br X v) = x_pl X := Eq.trans (Eq.refl _) (Eq.refl _)
theorem x_ki_br (X : XT) (v : Nat → Bool) : x_ki (xs_br X v) = x_ki X := Eq.trans (Eq.refl _) (Eq.refl _)
theorem x_kn_br (X : XT) (v : Nat → Bool) : x_kn (xs_br X v) = x_kn X := Eq.trans (Eq.refl _) (Eq.refl _)
theorem x_wt_br (X : XT) (v : Nat → Bool) : x_wt (xs_br X v) = x_wt X := Eq.trans (Eq.refl _) (Eq.refl _)
theorem x_ab_br (X : XT) (v : Nat → Bool) : x_ab (xs_br X v) = x_ab X := Eq.trans (Eq.refl _) (Eq.refl _)
theorem x_pu_br (X : XT) (v : Nat → Bool) : x_pu (xs_br X v) = x_pu X := Eq.trans (Eq.refl _) (Eq.refl _)
theorem x_fa_br (X : XT) (v : Nat → Bool) : x_fa (xs_br X v) = x_fa X := Eq.trans (Eq.refl _) (Eq.refl _)
theorem x_sg_br (X : XT) (v : Nat → Bool) : x_sg (xs_br X v) = x_sg X := Eq.trans (Eq.refl _) (Eq.refl _)
theorem x_sb_br (X : XT) (v : Nat → Bool) : x_sb (xs_br X v) = x_sb X := Eq.trans (Eq.refl _) (Eq.refl _)
theorem x_sv_br (X : XT) (v : Nat → Bool) : x_sv (xs_br X v) = x_sv X := Eq.trans (Eq.refl _) (Eq.refl _)
theorem x_sz_lo (X : XT) (v : Nat → Nat) : x_sz (xs_lo X v) = x_sz X := Eq.trans (Eq.refl _) (Eq.refl _)
theorem x_br_lo (X : XT) (v : Nat → Nat) : x_br (xs_lo X v) = x_br X := Eq.trans (Eq.refl _) (Eq.refl _)
theorem x_lo_lo (X : XT) (v : Nat → Nat) : x_lo (xs_lo X v) = v := Eq.trans (Eq.refl _) (Eq.refl _)
theorem x_hi_lo (X : XT) (v : Nat → Nat) : x_hi (xs_lo X v) = x_hi X := Eq.trans (Eq.refl _) (Eq.refl _)
theorem x_ld_lo (X : XT) (v : Nat → Nat) : x_ld (xs_lo X v) = x_ld X := Eq.trans (Eq.refl _) (Eq.refl _)
theorem x_bn_lo (X : XT) (v : Nat → Nat) : x_bn (xs_lo X v) = x_bn X := Eq.trans (Eq.refl _) (Eq.refl _)
theorem x_th_lo (X : XT) (v : Nat → Nat) : x_th (xs_lo X v) = x_th X := Eq.trans (Eq.refl _) (Eq.refl _)
theorem x_pl_lo (X : XT) (v : Nat → Nat) : x_pl (xs_lo X v) = x_pl X := Eq.trans (Eq.refl _) (Eq.refl _)
theorem x_ki_lo (X : XT) (v : Nat → Nat) : x_ki (xs_lo X v) = x_ki X := Eq.trans (Eq.refl _) (Eq.refl _)
theorem x_kn_lo (X : XT) (v : Nat → Nat) : x_kn (xs_lo X v) = x_kn X := Eq.trans (Eq.refl _) (Eq.refl _)
theorem x_wt_lo (X : XT) (v : Nat → Nat) : x_wt (xs_lo X v) = x_wt X := Eq.trans (Eq.refl _) (Eq.refl _)
theorem x_ab_lo (X : XT) (v : Nat → Nat) : x_ab (xs_lo X v) = x_ab X := Eq.trans (Eq.refl _) (Eq.refl _)
theorem x_pu_lo (X : XT) (v : Nat → Nat) : x_pu (xs_lo X v) = x_pu X := Eq.trans (Eq.refl _) (Eq.refl _)
theorem x_fa_lo (X : XT) (v : Nat → Nat) : x_fa (xs_lo X v) = x_fa X := Eq.trans (Eq.refl _) (Eq.refl _)
theorem x_sg_lo (X : XT) (v : Nat → Nat) : x_sg (xs_lo X v) = x_sg X := Eq.trans (Eq.refl _) (Eq.refl _)
theorem x_sb_lo (X : XT) (v : Nat → Nat) : x_sb (xs_lo X v) = x_sb X := Eq.trans (Eq.refl _) (Eq.refl _)
theorem x_sv_lo (X : XT) (v : Nat → Nat) : x_sv (xs_lo X v) = x_sv X := Eq.trans (Eq.refl _) (Eq.refl _)
theorem x_sz_hi (X : XT) (v : Nat → Nat) : x_sz (xs_hi X v) = x_sz X := Eq.trans (Eq.refl _) (Eq.refl _)
theorem x_br_hi (X : XT) (v : Nat → Nat) : x_br (xs_hi X v) = x_br X := Eq.trans (Eq.refl _) (Eq.refl _)
theorem x_lo_hi (X : XT) (v : Nat → Nat) : x_lo (xs_hi X v) = x_lo X := Eq.trans (Eq.refl _) (Eq.refl _)
theorem x_hi_hi (X : XT) (v : Nat → Nat) : x_hi (xs_hi X v) = v := Eq.trans (Eq.refl _) (Eq.refl _)
theorem x_ld_hi (X : XT) (v : Nat → Nat) : x_ld (xs_hi X v) = x_ld X := Eq.trans (Eq.refl _) (Eq.refl _)
theorem x_bn_hi (X : XT) (v : Nat → Nat) : x_bn (xs_hi X v) = x_bn X := Eq.trans (Eq.refl _) (Eq.refl _)
theorem x_th_hi (X : XT) (v : Nat → Nat) : x_th (xs_hi X v) = x_th X := Eq.trans (Eq.refl _) (Eq.refl _)
theorem x_pl_hi (X : XT) (v : Nat → Nat) : x_pl (xs_hi X v) = x_pl X := Eq.trans (Eq.refl _) (Eq.refl _)
theorem x_ki_hi (X : XT) (v : Nat → Nat) : x_ki (xs_hi X v) = x_ki X := Eq.trans (Eq.refl _) (Eq.refl _)
theorem x_kn_hi (X : XT) (v : Nat → Nat) : x_kn (xs_hi X v) = x_kn X := Eq.trans (Eq.refl _) (Eq.refl _)
theorem x_wt_hi (X : XT) (v : Nat → Nat) : x_wt (xs_hi X v) = x_wt X := Eq.trans (Eq.refl _) (Eq.refl _)
theorem x_ab_hi (X : XT) (v : Nat → Nat) : x_ab (xs_hi X v) = x_ab X := Eq.trans (Eq.refl _) (Eq.refl _)
theorem x_pu_hi (X : XT) (v : Nat → Nat) : x_pu (xs_hi X v) = x_pu X := Eq.trans (Eq.refl _) (Eq.refl _)
theorem x_fa_hi (X : XT) (v : Nat → Nat) : x_fa (xs_hi X v) = x_fa X := Eq.trans (Eq.refl _) (Eq.refl _)
theorem x_sg_hi (X : XT) (v : Nat → Nat) : x_sg (xs_hi X v) = x_sg X := Eq.trans (Eq.refl _) (Eq.refl _)
theorem x_sb_hi (X : XT) (v : Nat → Nat) : x_sb (xs_hi X v) = x_sb X := Eq.trans (Eq.refl _) (Eq.refl _)
theorem x_sv_hi (X : XT) (v : Nat → Nat) : x_sv (xs_hi X v) = x_sv X := Eq.trans (Eq.refl _) (Eq.refl _)
theorem x_sz_ld (X : XT) (v : Nat → Nat) : x_sz (xs_ld X v) = x_sz X := Eq.trans (Eq.refl _) (Eq.refl _)
theorem x_br_ld (X : XT) (v : Nat → Nat) : x_br (xs_ld X v) = x_br X := Eq.trans (Eq.refl _) (Eq.refl _)
theorem x_lo_ld (X : XT) (v : Nat → Nat) : x_lo (xs_ld X v) = x_lo X := Eq.trans (Eq.refl _) (Eq.refl _)
theorem x_hi_ld (X : XT) (v : Nat → Nat) : x_hi (xs_ld X v) = x_hi X := Eq.trans (Eq.refl _) (Eq.refl _)
theorem x_ld_ld (X : XT) (v : Nat → Nat) : x_ld (xs_ld X v) = v := Eq.trans (Eq.refl _) (Eq.refl _)
theorem x_bn_ld (X : XT) (v : Nat → Nat) : x_bn (xs_ld X v) = x_bn X := Eq.trans (Eq.refl _) (Eq.refl _)
theorem x_th_ld (X : XT) (v : Nat → Nat) : x_th (xs_ld X v) = x_th X := Eq.trans (Eq.refl _) (Eq.refl _)
theorem x_pl_ld (X : XT) (v : Nat → Nat) : x_pl (xs_ld X v) = x_pl X := Eq.trans (Eq.refl _) (Eq.refl _)
theorem x_ki_ld (X : XT) (v : Nat → Nat) : x_ki (xs_ld X v) = x_ki X := Eq.trans (Eq.refl _) (Eq.refl _)
theorem x_kn_ld (X : XT) (v : Nat → Nat) : x_kn (xs_ld X v) = x_kn X := Eq.trans (Eq.refl _) (Eq.refl _)
theorem x_wt_ld (X : XT) (v : Nat → Nat) : x_wt (xs_ld X v) = x_wt X := Eq.trans (Eq.refl _) (Eq.refl _)
theorem x_ab_ld (X : XT) (v : Nat → Nat) : x_ab (xs_ld X v) = x_ab X := Eq.trans (Eq.refl _) (Eq.refl _)
theorem x_pu_ld (X : XT) (v : Nat → Nat) : x_pu (xs_ld X v) = x_pu X := Eq.trans (Eq.refl _) (Eq.refl _)
theorem x_fa_ld (X : XT) (v : Nat → Nat) : x_fa (xs_ld X v) = x_fa X := Eq.trans (Eq.refl _) (Eq.refl _)
theorem x_sg_ld (X : XT) (v : Nat → Nat) : x_sg (xs_ld X v) = x_sg X := Eq.trans (Eq.refl _) (Eq.refl _)
theorem x_sb_ld (X : XT) (v : Nat → Nat) : x_sb (xs_ld X v) = x_sb X := Eq.trans (Eq.refl _) (Eq.refl _)
theorem x_sv_ld (X : XT) (v : Nat → Nat) : x_sv (xs_ld X v) = x_sv X := Eq.trans (Eq.refl _) (Eq.refl _)
theorem x_sz_bn (X : XT) (v : Nat → Nat) : x_sz (xs_bn X v) = x_sz X := Eq.trans (Eq.refl _) (Eq.refl _)
theorem x_br_bn (X : XT) (v : Nat → Nat) : x_br (xs_bn X v) = x_br X := Eq.trans (Eq.refl _) (Eq.refl _)
theorem x_lo_bn (X : XT) (v : Nat → Nat) : x_lo (xs_bn X v) = x_lo X := Eq.trans (Eq.refl _) (Eq.refl _)
theorem x_hi_bn (X : XT) (v : Nat → Nat) : x_hi (xs_bn X v) = x_hi X := Eq.trans (Eq.refl _) (Eq.refl _)
theorem x_ld_bn (X : XT) (v : Nat → Nat) : x_ld (xs_bn X v) = x_ld X := Eq.trans (Eq.refl _) (Eq.refl _)
theorem x_bn_bn (X : XT) (v : Nat → Nat) : x_bn (xs_bn X v) = v := Eq.trans (Eq.refl _) (Eq.refl _)
theorem x_th_bn (X : XT) (v : Nat → Nat) : x_th (xs_bn X v) = x_th X := Eq.trans (Eq.refl _) (Eq.refl _)
theorem x_pl_bn (X : XT) (v : Nat → Nat) : x_pl (xs_bn X v) = x_pl X := Eq.trans (Eq.refl _) (Eq.refl _)
theorem x_ki_bn (X : XT) (v : Nat → Nat) : x_ki (xs_bn X v) = x_ki X := Eq.trans (Eq.refl _) (Eq.refl _)
theorem x_kn_bn (X : XT) (v : Nat → Nat) : x_kn (xs_bn X v) = x_kn X := Eq.trans (Eq.refl _) (Eq.refl _)
theorem x_wt_bn (X : XT) (v : Nat → Nat) : x_wt (xs_bn X v) = x_wt X := Eq.trans (Eq.refl _) (Eq.refl _)
theorem x_ab_bn (X : XT) (v : Nat → Nat) : x_ab (xs_bn X v) = x_ab X := Eq.trans (Eq.refl _) (Eq.refl _)
theorem x_pu_bn (X : XT) (v : Nat → Nat) : x_pu (xs_bn X v) = x_pu X := Eq.trans (Eq.refl _) (Eq.refl _)
theorem x_fa_bn (X : XT) (v : Nat → Nat) : x_fa (xs_bn X v) = x_fa X := Eq.trans (Eq.refl _) (Eq.refl _)
theorem x_sg_bn (X : XT) (v : Nat → Nat) : x_sg (xs_bn X v) = x_sg X := Eq.trans (Eq.refl _) (Eq.refl _)
theorem x_sb_bn (X : XT) (v : Nat → Nat) : x_sb (xs_bn X v) = x_sb X := Eq.trans (Eq.refl _) (Eq.refl _)
theorem x_sv_bn (X : XT) (v : Nat → Nat) : x_sv (xs_bn X v) = x_sv X := Eq.trans (Eq.refl _) (Eq.refl _)
theorem x_sz_th (X : XT) (v : Nat → Bool) : x_sz (xs_th X v) = x_sz X := Eq.trans (Eq.refl _) (Eq.refl _)
theorem x_br_th (X : XT) (v : Nat → Bool) : x_br (xs_th X v) = x_br X := Eq.trans (Eq.refl _) (Eq.refl _)
theorem x_lo_th (X : XT) (v : Nat → Bool) : x_lo (xs_th X v) = x_lo X := Eq.trans (Eq.refl _) (Eq.refl _)
theorem x_hi_th (X : XT) (v : Nat → Bool) : x_hi (xs_th X v) = x_hi X := Eq.trans (Eq.refl _) (Eq.refl _)
theorem x_ld_th (X : XT) (v : Nat → Bool) : x_ld (xs_th X v) = x_ld X := Eq.trans (Eq.refl _) (Eq.refl _)
theorem x_bn_th (X : XT) (v : Nat → Bool) : x_bn (xs_th X v) = x_bn X := Eq.trans (Eq.refl _) (Eq.refl _)
theorem x_th_th (X : XT) (v : Nat → Bool) : x_th (xs_th X v) = v := Eq.trans (Eq.refl _) (Eq.refl _)
theorem x_pl_th (X : XT) (v : Nat → Bool) : x_pl (xs_th X v) = x_pl X := Eq.trans (Eq.refl _) (Eq.refl _)
theorem x_ki_th (X : XT) (v : Nat → Bool) : x_ki (xs_th X v) = x_ki X := Eq.trans (Eq.refl _) (Eq.refl _)
theorem x_kn_th (X : XT) (v : Nat → Bool) : x_kn (xs_th X v) = x_kn X := Eq.trans (Eq.refl _) (Eq.refl _)
theorem x_wt_th (X : XT) (v : Nat → Bool) : x_wt (xs_th X v) = x_wt X := Eq.trans (Eq.refl _) (Eq.refl _)
theorem x_ab_th (X : XT) (v : Nat → Bool) : x_ab (xs_th X v) = x_ab X := Eq.trans (Eq.refl _) (Eq.refl _)
theorem x_pu_th (X : XT) (v : Nat → Bool) : x_pu (xs_th X v) = x_pu X := Eq.trans (Eq.refl _) (Eq.refl _)
theorem x_fa_th (X : XT) (v : Nat → Bool) : x_fa (xs_th X v) = x_fa X := Eq.trans (Eq.refl _) (Eq.refl _)
theorem x_sg_th (X : XT) (v : Nat → Bool) : x_sg (xs_th X v) = x_sg X := Eq.trans (Eq.refl _) (Eq.refl _)
theorem x_sb_th (X : XT) (v : Nat → Bool) : x_sb (xs_th X v) = x_sb X := Eq.trans (Eq.refl _) (Eq.refl _)
theorem x_sv_th (X : XT) (v : Nat → Bool) : x_sv (xs_th X v) = x_sv X := Eq.trans (Eq.refl _) (Eq.refl _)
theorem x_sz_pl (X : XT) (v : Nat → Nat) : x_sz (xs_pl X v) = x_sz X := Eq.trans (Eq.refl _) (Eq.refl _)
theorem x_br_pl (X : XT) (v : Nat → Nat) : x_br (xs_pl X v) = x_br X := Eq.trans (Eq.refl _) (Eq.refl _)
theorem x_lo_pl (X : XT) (v : Nat → Nat) : x_lo (xs_pl X v) = x_lo X := Eq.trans (Eq.refl _) (Eq.refl _)
theorem x_hi_pl (X : XT) (v : Nat → Nat) : x_hi (xs_pl X v) = x_hi X := Eq.trans (Eq.refl _) (Eq.refl _)
theorem x_ld_pl (X : XT) (v : Nat → Nat) : x_ld (xs_pl X v) = x_ld X := Eq.trans (Eq.refl _) (Eq.refl _)
theorem x_bn_pl (X : XT) (v : Nat → Nat) : x_bn (xs_pl X v) = x_bn X := Eq.trans (Eq.refl _) (Eq.refl _)
theorem x_th_pl (X : XT) (v : Nat → Nat) : x_th (xs_pl X v) = x_th X := Eq.trans (Eq.refl _) (Eq.refl _)
theorem x_pl_pl (X : XT) (v : Nat → Nat) : x_pl (xs_pl X v) = v := Eq.trans (Eq.refl _) (Eq.refl _)
theorem x_ki_pl (X : XT) (v : Nat → Nat) : x_ki (xs_pl X v) = x_ki X := Eq.trans (Eq.refl _) (Eq.refl _)
theorem x_kn_pl (X : XT) (v : Nat → Nat) : x_kn (xs_pl X v) = x_kn X := Eq.trans (Eq.refl _) (Eq.refl _)
theorem x_wt_pl (X : XT) (v : Nat → Nat) : x_wt (xs_pl X v) = x_wt X := Eq.trans (Eq.refl _) (Eq.refl _)
theorem x_ab_pl (X : XT) (v : Nat → Nat) : x_ab (xs_pl X v) = x_ab X := Eq.trans (Eq.refl _) (Eq.refl _)
theorem x_pu_pl (X : XT) (v : Nat → Nat) : x_pu (xs_pl X v) = x_pu X := Eq.trans (Eq.refl _) (Eq.refl _)
theorem x_fa_pl (X : XT) (v : Nat → Nat) : x_fa (xs_pl X v) = x_fa X := Eq.trans (Eq.refl _) (Eq.refl _)
theorem x_sg_pl (X : XT) (v : Nat → Nat) : x_sg (xs_pl X v) = x_sg X := Eq.trans (Eq.refl _) (Eq.refl _)
theorem x_sb_pl (X : XT) (v : Nat → Nat) : x_sb (xs_pl X v) = x_sb X := Eq.trans (Eq.refl _) (Eq.refl _)
theorem x_sv_pl (X : XT) (v : Nat → Nat) : x_sv (xs_pl X v) = x_sv X := Eq.trans (Eq.refl _) (Eq.refl _)
theorem x_sz_ki (X : XT) (v : Nat → Nat) : x_sz (xs_ki X v) = x_sz X := Eq.trans (Eq.refl _) (Eq.refl _)
theorem x_br_ki (X : XT) (v : Nat → Nat) : x_br (xs_ki X v) = x_br X := Eq.trans (Eq.refl _) (Eq.refl _)
theorem x_lo_ki (X : XT) (v : Nat → Nat) : x_lo (xs_ki X v) = x_lo X := Eq.trans (Eq.refl _) (Eq.refl _)
theorem x_hi_ki (X : XT) (v : Nat → Nat) : x_hi (xs_ki X v) = x_hi X := Eq.trans (Eq.refl _) (Eq.refl _)
theorem x_ld_ki (X : XT) (v : Nat → Nat) : x_ld (xs_ki X v) = x_ld X := Eq.trans (Eq.refl _) (Eq.refl _)
theorem x_bn_ki (X : XT) (v : Nat → Nat) : x_bn (xs_ki X v) = x_bn X := Eq.trans (Eq.refl _) (Eq.refl _)
theorem x_th_ki (X : XT) (v : Nat → Nat) : x_th (xs_ki X v) = x_th X := Eq.trans (Eq.refl _) (Eq.refl _)
theorem x_pl_ki (X : XT) (v : Nat → Nat) : x_pl (xs_ki X v) = x_pl X := Eq.trans (Eq.refl _) (Eq.refl _)
theorem x_ki_ki (X : XT) (v : Nat → Nat) : x_ki (xs_ki X v) = v := Eq.trans (Eq.refl _) (Eq.refl _)
theorem x_kn_ki (X : XT) (v : Nat → Nat) : x_kn (xs_ki X v) = x_kn X := Eq.trans (Eq.refl _) (Eq.refl _)
theorem x_wt_ki (X : XT) (v : Nat → Nat) : x_wt (xs_ki X v) = x_wt X := Eq.trans (Eq.refl _) (Eq.refl _)
theorem x_ab_ki (X : XT) (v : Nat → Nat) : x_ab (xs_ki X v) = x_ab X := Eq.trans (Eq.refl _) (Eq.refl _)
theorem x_pu_ki (X : XT) (v : Nat → Nat) : x_pu (xs_ki X v) = x_pu X := Eq.trans (Eq.refl _) (Eq.refl _)
theorem x_fa_ki (X : XT) (v : Nat → Nat) : x_fa (xs_ki X v) = x_fa X := Eq.trans (Eq.refl _) (Eq.refl _)
theorem x_sg_ki (X : XT) (v : Nat → Nat) : x_sg (xs_ki X v) = x_sg X := Eq.trans (Eq.refl _) (Eq.refl _)
theorem x_sb_ki (X : XT) (v : Nat → Nat) : x_sb (xs_ki X v) = x_sb X := Eq.trans (Eq.refl _) (Eq.refl _)
theorem x_sv_ki (X : XT) (v : Nat → Nat) : x_sv (xs_ki X v) = x_sv X := Eq.trans (Eq.refl _) (Eq.refl _)
theorem x_sz_kn (X : XT) (v : Nat → Nat → Bool) : x_sz (xs_kn X v) = x_sz X := Eq.trans (Eq.refl _) (Eq.refl _)
theorem x_br_kn (X : XT) (v : Nat → Nat → Bool) : x_br (xs_kn X v) = x_br X := Eq.trans (Eq.refl _) (Eq.refl _)
theorem x_lo_kn (X : XT) (v : Nat → Nat → Bool) : x_lo (xs_kn X v) = x_lo X := Eq.trans (Eq.refl _) (Eq.refl _)
theorem x_hi_kn (X : XT) (v : Nat → Nat → Bool) : x_hi (xs_kn X v) = x_hi X := Eq.trans (Eq.refl _) (Eq.refl _)
theorem x_ld_kn (X : XT) (v : Nat → Nat → Bool) : x_ld (xs_kn X v) = x_ld X := Eq.trans (Eq.refl _) (Eq.refl _)
theorem x_bn_kn (X : XT) (v : Nat → Nat → Bool) : x_bn (xs_kn X v) = x_bn X := Eq.trans (Eq.refl _) (Eq.refl _)
theorem x_th_kn (X : XT) (v : Nat → Nat → Bool) : x_th (xs_kn X v) = x_th X := Eq.trans (Eq.refl _) (Eq.refl _)
theorem x_pl_kn (X : XT) (v : Nat → Nat → Bool) : x_pl (xs_kn X v) = x_pl X := Eq.trans (Eq.refl _) (Eq.refl _)
theorem x_ki_kn (X : XT) (v : Nat → Nat → Bool) : x_ki (xs_kn X v) = x_ki X := Eq.trans (Eq.refl _) (Eq.refl _)
theorem x_kn_kn (X : XT) (v : Nat → Nat → Bool) : x_kn (xs_kn X v) = v := Eq.trans (Eq.refl _) (Eq.refl _)
theorem x_wt_kn (X : XT) (v : Nat → Nat → Bool) : x_wt (xs_kn X v) = x_wt X := Eq.trans (Eq.refl _) (Eq.refl _)
theorem x_ab_kn (X : XT) (v : Nat → Nat → Bool) : x_ab (xs_kn X v) = x_ab X := Eq.trans (Eq.refl _) (Eq.refl _)
theorem x_pu_kn (X : XT) (v : Nat → Nat → Bool) : x_pu (xs_kn X v) = x_pu X := Eq.trans (Eq.refl _) (Eq.refl _)
theorem x_fa_kn (X : XT) (v : Nat → Nat → Bool) : x_fa (xs_kn X v) = x_fa X := Eq.trans (Eq.refl _) (Eq.refl _)
theorem x_sg_kn (X : XT) (v : Nat → Nat → Bool) : x_sg (xs_kn X v) = x_sg X := Eq.trans (Eq.refl _) (Eq.refl _)
theorem x_sb_kn (X : XT) (v : Nat → Nat → Bool) : x_sb (xs_kn X v) = x_sb X := Eq.trans (Eq.refl _) (Eq.refl _)
theorem x_sv_kn (X : XT) (v : Nat → Nat → Bool) : x_sv (xs_kn X v) = x_sv X := Eq.trans (Eq.refl _) (Eq.refl _)
theorem x_sz_wt (X : XT) (v : Nat → Int) : x_sz (xs_wt X v) = x_sz X := Eq.trans (Eq.refl _) (Eq.refl _)
theorem x_br_wt (X : XT) (v : Nat → Int) : x_br (xs_wt X v) = x_br X := Eq.trans (Eq.refl _) (Eq.refl _)
theorem x_lo_wt (X : XT) (v : Nat → Int) : x_lo (xs_wt X v) = x_lo X := Eq.trans (Eq.refl _) (Eq.refl _)
theorem x_hi_wt (X : XT) (v : Nat → Int) : x_hi (xs_wt X v) = x_hi X := Eq.trans (Eq.refl _) (Eq.refl _)
theorem x_ld_wt (X : XT) (v : Nat → Int) : x_ld (xs_wt X v) = x_ld X := Eq.trans (Eq.refl _) (Eq.refl _)
theorem x_bn_wt (X : XT) (v : Nat → Int) : x_bn (xs_wt X v) = x_bn X := Eq.trans (Eq.refl _) (Eq.refl _)
theorem x_th_wt (X : XT) (v : Nat → Int) : x_th (xs_wt X v) = x_th X := Eq.trans (Eq.refl _) (Eq.refl _)
theorem x_pl_wt (X : XT) (v : Nat → Int) : x_pl (xs_wt X v) = x_pl X := Eq.trans (Eq.refl _) (Eq.refl _)
theorem x_ki_wt (X : XT) (v : Nat → Int) : x_ki (xs_wt X v) = x_ki X := Eq.trans (Eq.refl _) (Eq.refl _)
theorem x_kn_wt (X : XT) (v : Nat → Int) : x_kn (xs_wt X v) = x_kn X := Eq.trans (Eq.refl _) (Eq.refl _)
theorem x_wt_wt (X : XT) (v : Nat → Int) : x_wt (xs_wt X v) = v := Eq.trans (Eq.refl _) (Eq.refl _)
theorem x_ab_wt (X : XT) (v : Nat → Int) : x_ab (xs_wt X v) = x_ab X := Eq.trans (Eq.refl _) (Eq.refl _)
theorem x_pu_wt (X : XT) (v : Nat → Int) : x_pu (xs_wt X v) = x_pu X := Eq.trans (Eq.refl _) (Eq.refl _)
theorem x_fa_wt (X : XT) (v : Nat → Int) : x_fa (xs_wt X v) = x_fa X := Eq.trans (Eq.refl _) (Eq.refl _)
theorem x_sg_wt (X : XT) (v : Nat → Int) : x_sg (xs_wt X v) = x_sg X := Eq.trans (Eq.refl _) (Eq.refl _)
theorem x_sb_wt (X : XT) (v : Nat → Int) : x_sb (xs_wt X v) = x_sb X := Eq.trans (Eq.refl _) (Eq.refl _)
theorem x_sv_wt (X : XT) (v : Nat → Int) : x_sv (xs_wt X v) = x_sv X := Eq.trans (Eq.refl _) (Eq.refl _)
theorem x_sz_ab (X : XT) (v : Nat → Nat) : x_sz (xs_ab X v) = x_sz X := Eq.trans (Eq.refl _) (Eq.refl _)
theorem x_br_ab (X : XT) (v : Nat → Nat) : x_br (xs_ab X v) = x_br X := Eq.trans (Eq.refl _) (Eq.refl _)
theorem x_lo_ab (X : XT) (v : Nat → Nat) : x_lo (xs_ab X v) = x_lo X := Eq.trans (Eq.refl _) (Eq.refl _)
theorem x_hi_ab (X : XT) (v : Nat → Nat) : x_hi (xs_ab X v) = x_hi X := Eq.trans (Eq.refl _) (Eq.refl _)
theorem x_ld_ab (X : XT) (v : Nat → Nat) : x_ld (xs_ab X v) = x_ld X := Eq.trans (Eq.refl _) (Eq.refl _)
theorem x_bn_ab (X : XT) (v : Nat → Nat) : x_bn (xs_ab X v) = x_bn X := Eq.trans (Eq.refl _) (Eq.refl _)
theorem x_th_ab (X : XT) (v : Nat → Nat) : x_th (xs_ab X v) = x_th X := Eq.trans (Eq.refl _) (Eq.refl _)
theorem x_pl_ab (X : XT) (v : Nat → Nat) : x_pl (xs_ab X v) = x_pl X := Eq.trans (Eq.refl _) (Eq.refl _)
theorem x_ki_ab (X : XT) (v : Nat → Nat) : x_ki (xs_ab X v) = x_ki X := Eq.trans (Eq.refl _) (Eq.refl _)
theorem x_kn_ab (X : XT) (v : Nat → Nat) : x_kn (xs_ab X v) = x_kn X := Eq.trans (Eq.refl _) (Eq.refl _)
theorem x_wt_ab (X : XT) (v : Nat → Nat) : x_wt (xs_ab X v) = x_wt X := Eq.trans (Eq.refl _) (Eq.refl _)
theorem x_ab_ab (X : XT) (v : Nat → Nat) : x_ab (xs_ab X v) = v := Eq.trans (Eq.refl _) (Eq.refl _)
theorem x_pu_ab (X : XT) (v : Nat → Nat) : x_pu (xs_ab X v) = x_pu X := Eq.trans (Eq.refl _) (Eq.refl _)
theorem x_fa_ab (X : XT) (v : Nat → Nat) : x_fa (xs_ab X v) = x_fa X := Eq.trans (Eq.refl _) (Eq.refl _)
theorem x_sg_ab (X : XT) (v : Nat → Nat) : x_sg (xs_ab X v) = x_sg X := Eq.trans (Eq.refl _) (Eq.refl _)
theorem x_sb_ab (X : XT) (v : Nat → Nat) : x_sb (xs_ab X v) = x_sb X := Eq.trans (Eq.refl _) (Eq.refl _)
theorem x_sv_ab (X : XT) (v : Nat → Nat) : x_sv (xs_ab X v) = x_sv X := Eq.trans (Eq.refl _) (Eq.refl _)
theorem x_sz_pu (X : XT) (v : Nat → Bool) : x_sz (xs_pu X v) = x_sz X := Eq.trans (Eq.refl _) (Eq.refl _)
theorem x_br_pu (X : XT) (v : Nat → Bool) : x_br (xs_pu X v) = x_br X := Eq.trans (Eq.refl _) (Eq.refl _)
theorem x_lo_pu (X : XT) (v : Nat → Bool) : x_lo (xs_pu X v) = x_lo X := Eq.trans (Eq.refl _) (Eq.refl _)
theorem x_hi_pu (X : XT) (v : Nat → Bool) : x_hi (xs_pu X v) = x_hi X := Eq.trans (Eq.refl _) (Eq.refl _)
theorem x_ld_pu (X : XT) (v : Nat → Bool) : x_ld (xs_pu X v) = x_ld X := Eq.trans (Eq.refl _) (Eq.refl _)
theorem x_bn_pu (X : XT) (v : Nat → Bool) : x_bn (xs_pu X v) = x_bn X := Eq.trans (Eq.refl _) (Eq.refl _)
theorem x_th_pu (X : XT) (v : Nat → Bool) : x_th (xs_pu X v) = x_th X := Eq.trans (Eq.refl _) (Eq.refl _)
theorem x_pl_pu (X : XT) (v : Nat → Bool) : x_pl (xs_pu X v) = x_pl X := Eq.trans (Eq.refl _) (Eq.refl _)
theorem x_ki_pu (X : XT) (v : Nat → Bool) : x_ki (xs_pu X v) = x_ki X := Eq.trans (Eq.refl _) (Eq.refl _)
theorem x_kn_pu (X : XT) (v : Nat → Bool) : x_kn (xs_pu X v) = x_kn X := Eq.trans (Eq.refl _) (Eq.refl _)
theorem x_wt_pu (X : XT) (v : Nat → Bool) : x_wt (xs_pu X v) = x_wt X := Eq.trans (Eq.refl _) (Eq.refl _)
theorem x_ab_pu (X : XT) (v : Nat → Bool) : x_ab (xs_pu X v) = x_ab X := Eq.trans (Eq.refl _) (Eq.refl _)
theorem x_pu_pu (X : XT) (v : Nat → Bool) : x_pu (xs_pu X v) = v := Eq.trans (Eq.refl _) (Eq.refl _)
theorem x_fa_pu (X : XT) (v : Nat → Bool) : x_fa (xs_pu X v) = x_fa X := Eq.trans (Eq.refl _) (Eq.refl _)
theorem x_sg_pu (X : XT) (v : Nat → Bool) : x_sg (xs_pu X v) = x_sg X := Eq.trans (Eq.refl _) (Eq.refl _)
theorem x_sb_pu (X : XT) (v : Nat → Bool) : x_sb (xs_pu X v) = x_sb X := Eq.trans (Eq.refl _) (Eq.refl _)
theorem x_sv_pu (X : XT) (v : Nat → Bool) : x_sv (xs_pu X v) = x_sv X := Eq.trans (Eq.refl _) (Eq.refl _)
theorem x_sz_fa (X : XT) (v : Nat) : x_sz (xs_fa X v) = x_sz X := Eq.trans (Eq.refl _) (Eq.refl _)
theorem x_br_fa (X : XT) (v : Nat) : x_br (xs_fa X v) = x_br X := Eq.trans (Eq.refl _) (Eq.refl _)
theorem x_lo_fa (X : XT) (v : Nat) : x_lo (xs_fa X v) = x_lo X := Eq.trans (Eq.refl _) (Eq.refl _)
theorem x_hi_fa (X : XT) (v : Nat) : x_hi (xs_fa X v) = x_hi X := Eq.trans (Eq.refl _) (Eq.refl _)
theorem x_ld_fa (X : XT) (v : Nat) : x_ld (xs_fa X v) = x_ld X := Eq.trans (Eq.refl _) (Eq.refl _)
theorem x_bn_fa (X : XT) (v : Nat) : x_bn (xs_fa X v) = x_bn X := Eq.trans (Eq.refl _) (Eq.refl _)
theorem x_th_fa (X : XT) (v : Nat) : x_th (xs_fa X v) = x_th X := Eq.trans (Eq.refl _) (Eq.refl _)
theorem x_pl_fa (X : XT) (v : Nat) : x_pl (xs_fa X v) = x_pl X := Eq.trans (Eq.refl _) (Eq.refl _)
theorem x_ki_fa (X : XT) (v : Nat) : x_ki (xs_fa X v) = x_ki X := Eq.trans (Eq.refl _) (Eq.refl _)
theorem x_kn_fa (X : XT) (v : Nat) : x_kn (xs_fa X v) = x_kn X := Eq.trans (Eq.refl _) (Eq.refl _)
theorem x_wt_fa (X : XT) (v : Nat) : x_wt (xs_fa X v) = x_wt X := Eq.trans (Eq.refl _) (Eq.refl _)
theorem x_ab_fa (X : XT) (v : Nat) : x_ab (xs_fa X v) = x_ab X := Eq.trans (Eq.refl _) (Eq.refl _)
theorem x_pu_fa (X : XT) (v : Nat) : x_pu (xs_fa X v) = x_pu X := Eq.trans (Eq.refl _) (Eq.refl _)
theorem x_fa_fa (X : XT) (v : Nat) : x_fa (xs_fa X v) = v := Eq.trans (Eq.refl _) (Eq.refl _)
theorem x_sg_fa (X : XT) (v : Nat) : x_sg (xs_fa X v) = x_sg X := Eq.trans (Eq.refl _) (Eq.refl _)
theorem x_sb_fa (X : XT) (v : Nat) : x_sb (xs_fa X v) = x_sb X := Eq.trans (Eq.refl _) (Eq.refl _)
theorem x_sv_fa (X : XT) (v : Nat) : x_sv (xs_fa X v) = x_sv X := Eq.trans (Eq.refl _) (Eq.refl _)
theorem x_sz_sg (X : XT) (v : Nat) : x_sz (xs_sg X v) = x_sz X := Eq.trans (Eq.refl _) (Eq.refl _)
theorem x_br_sg (X : XT) (v : Nat) : x_br (xs_sg X v) = x_br X := Eq.trans (Eq.refl _) (Eq.refl _)
theorem x_lo_sg (X : XT) (v : Nat) : x_lo (xs_sg X v) = x_lo X := Eq.trans (Eq.refl _) (Eq.refl _)
theorem x_hi_sg (X : XT) (v : Nat) : x_hi (xs_sg X v) = x_hi X := Eq.trans (Eq.refl _) (Eq.refl _)
theorem x_ld_sg (X : XT) (v : Nat) : x_ld (xs_sg X v) = x_ld X := Eq.trans (Eq.refl _) (Eq.refl _)
theorem x_bn_sg (X : XT) (v : Nat) : x_bn (xs_sg X v) = x_bn X := Eq.trans (Eq.refl _) (Eq.refl _)
theorem x_th_sg (X : XT) (v : Nat) : x_th (xs_sg X v) = x_th X := Eq.trans (Eq.refl _) (Eq.refl _)
theorem x_pl_sg (X : XT) (v : Nat) : x_pl (xs_sg X v) = x_pl X := Eq.trans (Eq.refl _) (Eq.refl _)
theorem x_ki_sg (X : XT) (v : Nat) : x_ki (xs_sg X v) = x_ki X := Eq.trans (Eq.refl _) (Eq.refl _)
theorem x_kn_sg (X : XT) (v : Nat) : x_kn (xs_sg X v) = x_kn X := Eq.trans (Eq.refl _) (Eq.refl _)
theorem x_wt_sg (X : XT) (v : Nat) : x_wt (xs_sg X v) = x_wt X := Eq.trans (Eq.refl _) (Eq.refl _)
theorem x_ab_sg (X : XT) (v : Nat) : x_ab (xs_sg X v) = x_ab X := Eq.trans (Eq.refl _) (Eq.refl _)
theorem x_pu_sg (X : XT) (v : Nat) : x_pu (xs_sg X v) = x_pu X := Eq.trans (Eq.refl _) (Eq.refl _)
theorem x_fa_sg (X : XT) (v : Nat) : x_fa (xs_sg X v) = x_fa X := Eq.trans (Eq.refl _) (Eq.refl _)
theorem x_sg_sg (X : XT) (v : Nat) : x_sg (xs_sg X v) = v := Eq.trans (Eq.refl _) (Eq.refl _)
theorem x_sb_sg (X : XT) (v : Nat) : x_sb (xs_sg X v) = x_sb X := Eq.trans (Eq.refl _) (Eq.refl _)
theorem x_sv_sg (X : XT) (v : Nat) : x_sv (xs_sg X v) = x_sv X := Eq.trans (Eq.refl _) (Eq.refl _)
theorem x_sz_sb (X : XT) (v : Nat → Nat) : x_sz (xs_sb X v) = x_sz X := Eq.trans (Eq.refl _) (Eq.refl _)
theorem x_br_sb (X : XT) (v : Nat → Nat) : x_br (xs_sb X v) = x_br X := Eq.trans (Eq.refl _) (Eq.refl _)
theorem x_lo_sb (X : XT) (v : Nat → Nat) : x_lo (xs_sb X v) = x_lo X := Eq.trans (Eq.refl _) (Eq.refl _)
theorem x_hi_sb (X : XT) (v : Nat → Nat) : x_hi (xs_sb X v) = x_hi X := Eq.trans (Eq.refl _) (Eq.refl _)
theorem x_ld_sb (X : XT) (v : Nat → Nat) : x_ld (xs_sb X v) = x_ld X := Eq.trans (Eq.refl _) (Eq.refl _)
theorem x_bn_sb (X : XT) (v : Nat → Nat) : x_bn (xs_sb X v) = x_bn X := Eq.trans (Eq.refl _) (Eq.refl _)
theorem x_th_sb (X : XT) (v : Nat → Nat) : x_th (xs_sb X v) = x_th X := Eq.trans (Eq.refl _) (Eq.refl _)
theorem x_pl_sb (X : XT) (v : Nat → Nat) : x_pl (xs_sb X v) = x_pl X := Eq.trans (Eq.refl _) (Eq.refl _)
theorem x_ki_sb (X : XT) (v : Nat → Nat) : x_ki (xs_sb X v) = x_ki X := Eq.trans (Eq.refl _) (Eq.refl _)
theorem x_kn_sb (X : XT) (v : Nat → Nat) : x_kn (xs_sb X v) = x_kn X := Eq.trans (Eq.refl _) (Eq.refl _)
theorem x_wt_sb (X : XT) (v : Nat → Nat) : x_wt (xs_sb X v) = x_wt X := Eq.trans (Eq.refl _) (Eq.refl _)
theorem x_ab_sb (X : XT) (v : Nat → Nat) : x_ab (xs_sb X v) = x_ab X := Eq.trans (Eq.refl _) (Eq.refl _)
theorem x_pu_sb (X : XT) (v : Nat → Nat) : x_pu (xs_sb X v) = x_pu X := Eq.trans (Eq.refl _) (Eq.refl _)
theorem x_fa_sb (X : XT) (v : Nat → Nat) : x_fa (xs_sb X v) = x_fa X := Eq.trans (Eq.refl _) (Eq.refl _)
theorem x_sg_sb (X : XT) (v : Nat → Nat) : x_sg (xs_sb X v) = x_sg X := Eq.trans (Eq.refl _) (Eq.refl _)
theorem x_sb_sb (X : XT) (v : Nat → Nat) : x_sb (xs_sb X v) = v := Eq.trans (Eq.refl _) (Eq.refl _)
theorem x_sv_sb (X : XT) (v : Nat → Nat) : x_sv (xs_sb X v) = x_sv X := Eq.trans (Eq.refl _) (Eq.refl _)
theorem x_sz_sv (X : XT) (v : Nat → Nat) : x_sz (xs_sv X v) = x_sz X := Eq.trans (Eq.refl _) (Eq.refl _)
theorem x_br_sv (X : XT) (v : Nat → Nat) : x_br (xs_sv X v) = x_br X := Eq.trans (Eq.refl _) (Eq.refl _)
theorem x_lo_sv (X : XT) (v : Nat → Nat) : x_lo (xs_sv X v) = x_lo X := Eq.trans (Eq.refl _) (Eq.refl _)
theorem x_hi_sv (X : XT) (v : Nat → Nat) : x_hi (xs_sv X v) = x_hi X := Eq.trans (Eq.refl _) (Eq.refl _)
theorem x_ld_sv (X : XT) (v : Nat → Nat) : x_ld (xs_sv X v) = x_ld X := Eq.trans (Eq.refl _) (Eq.refl _)
theorem x_bn_sv (X : XT) (v : Nat → Nat) : x_bn (xs_sv X v) = x_bn X := Eq.trans (Eq.refl _) (Eq.refl _)
theorem x_th_sv (X : XT) (v : Nat → Nat) : x_th (xs_sv X v) = x_th X := Eq.trans (Eq.refl _) (Eq.refl _)
theorem x_pl_sv (X : XT) (v : Nat → Nat) : x_pl (xs_sv X v) = x_pl X := Eq.trans (Eq.refl _) (Eq.refl _)
theorem x_ki_sv (X : XT) (v : Nat → Nat) : x_ki (xs_sv X v) = x_ki X := Eq.trans (Eq.refl _) (Eq.refl _)
theorem x_kn_sv (X : XT) (v : Nat → Nat) : x_kn (xs_sv X v) = x_kn X := Eq.trans (Eq.refl _) (Eq.refl _)
theorem x_wt_sv (X : XT) (v : Nat → Nat) : x_wt (xs_sv X v) = x_wt X := Eq.trans (Eq.refl _) (Eq.refl _)
theorem x_ab_sv (X : XT) (v : Nat → Nat) : x_ab (xs_sv X v) = x_ab X := Eq.trans (Eq.refl _) (Eq.refl _)
theorem x_pu_sv (X : XT) (v : Nat → Nat) : x_pu (xs_sv X v) = x_pu X := Eq.trans (Eq.refl _) (Eq.refl _)
theorem x_fa_sv (X : XT) (v : Nat → Nat) : x_fa (xs_sv X v) = x_fa X := Eq.trans (Eq.refl _) (Eq.refl _)
theorem x_sg_sv (X : XT) (v : Nat → Nat) : x_sg (xs_sv X v) = x_sg X := Eq.trans (Eq.refl _) (Eq.refl _)
theorem x_sb_sv (X : XT) (v : Nat → Nat) : x_sb (xs_sv X v) = x_sb X := Eq.trans (Eq.refl _) (Eq.refl _)
theorem x_sv_sv (X : XT) (v : Nat → Nat) : x_sv (xs_sv X v) = v := Eq.trans (Eq.refl _) (Eq.refl _)
/-- the cells hold X (of who is not there nothing is said of what it KNOWS) -/
def rp (I : Nat → Int32) (A : Nat → Nat → Int32) (X : XT) : Prop := I 0 = nI (x_sz X) ∧ I 1 = nI (bitsN (x_br X) 8) ∧ I 6 = nI (bitsN (x_th X) 6) ∧ I 12 = nI (bitsN (x_pu X) 8) ∧ I 13 = nI (x_fa X) ∧ I 14 = nI (x_sg X) ∧ (∀ i, i < 8 → A 1 i = nI (x_lo X i)) ∧ (∀ i, i < 8 → A 2 i = nI (x_hi X i)) ∧ (∀ i, i < 8 → A 3 i = nI (x_ld X i)) ∧ (∀ i, i < 8 → A 4 i = nI (x_bn X i)) ∧ (∀ i, i < 6 → A 5 i = nI (x_pl X i)) ∧ (∀ i, i < 6 → A 6 i = nI (x_ki X i)) ∧ (∀ i, i < 6 → x_th X i = true → A 7 i = nI (bitsN (x_kn X i) 8)) ∧ (∀ i, i < 8 → A 8 i = zI (x_wt X i)) ∧ (∀ i, i < 8 → A 9 i = nI (x_ab X i)) ∧ (∀ i, i < 6 → A 10 i = nI (x_sb X i)) ∧ (∀ i, i < 6 → A 11 i = nI (x_sv X i))
def mslot (k : Nat) : Nat := if k = 6 then 2 else if k = 12 then 3 else if k = 14 then 16 else k
def rpT (σ : St) (b : Nat) (X : XT) : Prop := rp (sI σ b) (fun j => sA σ (b + j)) X
def rpM (σ : St) (X : XT) : Prop := rp (fun k => sI σ 33 (mslot k)) (fun j => sA σ (33 + j)) X
/-- the class's towns: who is not there KNOWS nothing -/
def rzT (σ : St) (b : Nat) (X : XT) : Prop := rpT σ b X ∧ ∀ i, i < 6 → sA σ (b + 7) i = nI (bitsN (x_kn X i) 8)
theorem rpT_sz {σ : St} {b : Nat} {X : XT} (h : rpT σ b X) : sI σ b 0 = nI (x_sz X) := h.1
theorem rpM_sz {σ : St} {X : XT} (h : rpM σ X) : sI σ 33 0 = nI (x_sz X) := h.1
theorem rpT_br {σ : St} {b : Nat} {X : XT} (h : rpT σ b X) : sI σ b 1 = nI (bitsN (x_br X) 8) := h.2.1
theorem rpM_br {σ : St} {X : XT} (h : rpM σ X) : sI σ 33 1 = nI (bitsN (x_br X) 8) := h.2.1
theorem rpT_th {σ : St} {b : Nat} {X : XT} (h : rpT σ b X) : sI σ b 6 = nI (bitsN (x_th X) 6) := h.2.2.1
theorem rpM_th {σ : St} {X : XT} (h : rpM σ X) : sI σ 33 2 = nI (bitsN (x_th X) 6) := h.2.2.1
theorem rpT_pu {σ : St} {b : Nat} {X : XT} (h : rpT σ b X) : sI σ b 12 = nI (bitsN (x_pu X) 8) := h.2.2.2.1
theorem rpM_pu {σ : St} {X : XT} (h : rpM σ X) : sI σ 33 3 = nI (bitsN (x_pu X) 8) := h.2.2.2.1
theorem rpT_fa {σ : St} {b : Nat} {X : XT} (h : rpT σ b X) : sI σ b 13 = nI (x_fa X) := h.2.2.2.2.1
theorem rpM_fa {σ : St} {X : XT} (h : rpM σ X) : sI σ 33 13 = nI (x_fa X) := h.2.2.2.2.1
theorem rpT_sg {σ : St} {b : Nat} {X : XT} (h : rpT σ b X) : sI σ b 14 = nI (x_sg X) := h.2.2.2.2.2.1
theorem rpM_sg {σ : St} {X : XT} (h : rpM σ X) : sI σ 33 16 = nI (x_sg X) := h.2.2.2.2.2.1
theorem rpT_lo {σ : St} {b : Nat} {X : XT} (h : rpT σ b X) {i : Nat} (hi : i < 8) : sA σ (b + 1) i = nI (x_lo X i) := h.2.2.2.2.2.2.1 i hi
theorem rpM_lo {σ : St} {X : XT} (h : rpM σ X) {i : Nat} (hi : i < 8) : sA σ 34 i = nI (x_lo X i) := h.2.2.2.2.2.2.1 i hi
theorem rpT_hi {σ : St} {b : Nat} {X : XT} (h : rpT σ b X) {i : Nat} (hi : i < 8) : sA σ (b + 2) i = nI (x_hi X i) := h.2.2.2.2.2.2.2.1 i hi
theorem rpM_hi {σ : St} {X : XT} (h : rpM σ X) {i : Nat} (hi : i < 8) : sA σ 35 i = nI (x_hi X i) := h.2.2.2.2.2.2.2.1 i hi
theorem rpT_ld {σ : St} {b : Nat} {X : XT} (h : rpT σ b X) {i : Nat} (hi : i < 8) : sA σ (b + 3) i = nI (x_ld X i) := h.2.2.2.2.2.2.2.2.1 i hi
theorem rpM_ld {σ : St} {X : XT} (h : rpM σ X) {i : Nat} (hi : i < 8) : sA σ 36 i = nI (x_ld X i) := h.2.2.2.2.2.2.2.2.1 i hi
theorem rpT_bn {σ : St} {b : Nat} {X : XT} (h : rpT σ b X) {i : Nat} (hi : i < 8) : sA σ (b + 4) i = nI (x_bn X i) := h.2.2.2.2.2.2.2.2.2.1 i hi
theorem rpM_bn {σ : St} {X : XT} (h : rpM σ X) {i : Nat} (hi : i < 8) : sA σ 37 i = nI (x_bn X i) := h.2.2.2.2.2.2.2.2.2.1 i hi
theorem rpT_pl {σ : St} {b : Nat} {X : XT} (h : rpT σ b X) {i : Nat} (hi : i < 6) : sA σ (b + 5) i = nI (x_pl X i) := h.2.2.2.2.2.2.2.2.2.2.1 i hi
theorem rpM_pl {σ : St} {X : XT} (h : rpM σ X) {i : Nat} (hi : i < 6) : sA σ 38 i = nI (x_pl X i) := h.2.2.2.2.2.2.2.2.2.2.1 i hi
theorem rpT_ki {σ : St} {b : Nat} {X : XT} (h : rpT σ b X) {i : Nat} (hi : i < 6) : sA σ (b + 6) i = nI (x_ki X i) := h.2.2.2.2.2.2.2.2.2.2.2.1 i hi
theorem rpM_ki {σ : St} {X : XT} (h : rpM σ X) {i : Nat} (hi : i < 6) : sA σ 39 i = nI (x_ki X i) := h.2.2.2.2.2.2.2.2.2.2.2.1 i hi
theorem rzT_kn {σ : St} {b : Nat} {X : XT} (h : rzT σ b X) {i : Nat} (hi : i < 6) : sA σ (b + 7) i = nI (bitsN (x_kn X i) 8) := h.2 i hi
theorem rpM_kn {σ : St} {X : XT} (h : rpM σ X) {i : Nat} (hi : i < 6) (ht : x_th X i = true) : sA σ 40 i = nI (bitsN (x_kn X i) 8) := h.2.2.2.2.2.2.2.2.2.2.2.2.1 i hi ht
theorem rpT_wt {σ : St} {b : Nat} {X : XT} (h : rpT σ b X) {i : Nat} (hi : i < 8) : sA σ (b + 8) i = zI (x_wt X i) := h.2.2.2.2.2.2.2.2.2.2.2.2.2.1 i hi
theorem rpM_wt {σ : St} {X : XT} (h : rpM σ X) {i : Nat} (hi : i < 8) : sA σ 41 i = zI (x_wt X i) := h.2.2.2.2.2.2.2.2.2.2.2.2.2.1 i hi
theorem rpT_ab {σ : St} {b : Nat} {X : XT} (h : rpT σ b X) {i : Nat} (hi : i < 8) : sA σ (b + 9) i = nI (x_ab X i) := h.2.2.2.2.2.2.2.2.2.2.2.2.2.2.1 i hi
theorem rpM_ab {σ : St} {X : XT} (h : rpM σ X) {i : Nat} (hi : i < 8) : sA σ 42 i = nI (x_ab X i) := h.2.2.2.2.2.2.2.2.2.2.2.2.2.2.1 i hi
theorem rpT_sb {σ : St} {b : Nat} {X : XT} (h : rpT σ b X) {i : Nat} (hi : i < 6) : sA σ (b + 10) i = nI (x_sb X i) := h.2.2.2.2.2.2.2.2.2.2.2.2.2.2.2.1 i hi
theorem rpM_sb {σ : St} {X : XT} (h : rpM σ X) {i : Nat} (hi : i < 6) : sA σ 43 i = nI (x_sb X i) := h.2.2.2.2.2.2.2.2.2.2.2.2.2.2.2.1 i hi
theorem rpT_sv {σ : St} {b : Nat} {X : XT} (h : rpT σ b X) {i : Nat} (hi : i < 6) : sA σ (b + 11) i = nI (x_sv X i) := h.2.2.2.2.2.2.2.2.2.2.2.2.2.2.2.2 i hi
theorem rpM_sv {σ : St} {X : XT} (h : rpM σ X) {i : Nat} (hi : i < 6) : sA σ 44 i = nI (x_sv X i) := h.2.2.2.2.2.2.2.2.2.2.2.2.2.2.2.2 i hi
/-- the bounds -/
def okX (X : XT) : Prop := (2 ≤ x_sz X ∧ x_sz X ≤ 6) ∧ (∀ i, i < 8 → x_lo X i < 6 ∧ x_hi X i < 6 ∧ x_ld X i < 100 ∧ x_bn X i < 2000) ∧ (∀ i, i < 8 → x_br X i = true → x_lo X i < x_hi X i ∧ x_hi X i < x_sz X) ∧ (∀ p, p < 6 → x_pl X p < 6 ∧ x_ki X p < 3) ∧ (∀ p, p < 6 → x_th X p = true → x_pl X p < x_sz X) ∧ (∀ p, p < 6 → x_th X p = false → ∀ k, x_kn X p k = false) ∧ (∀ k, k < 8 → -20 ≤ x_wt X k ∧ x_wt X k ≤ 99 ∧ x_ab X k < 4) ∧ x_fa X ≤ 9 ∧ x_sg X ≤ 6 ∧ (∀ i, i < 6 → x_sb X i < 8 ∧ x_sv X i < 1000)
theorem ok_sz {X : XT} (h : okX X) : 2 ≤ x_sz X ∧ x_sz X ≤ 6 := h.1
theorem ok_b {X : XT} (h : okX X) {i : Nat} (hi : i < 8) : x_lo X i < 6 ∧ x_hi X i < 6 ∧ x_ld X i < 100 ∧ x_bn X i < 2000 := h.2.1 i hi
theorem ok_br {X : XT} (h : okX X) {i : Nat} (hi : i < 8) (hb : x_br X i = true) : x_lo X i < x_hi X i ∧ x_hi X i < x_sz X := h.2.2.1 i hi hb
theorem ok_p {X : XT} (h : okX X) {i : Nat} (hi : i < 6) : x_pl X i < 6 ∧ x_ki X i < 3 := h.2.2.2.1 i hi
theorem ok_th {X : XT} (h : okX X) {i : Nat} (hi : i < 6) (ht : x_th X i = true) : x_pl X i < x_sz X := h.2.2.2.2.1 i hi ht
theorem ok_no {X : XT} (h : okX X) {i : Nat} (hi : i < 6) (ht : x_th X i = false) (k : Nat) : x_kn X i k = false := h.2.2.2.2.2.1 i hi ht k
theorem ok_wt {X : XT} (h : okX X) {k : Nat} (hk : k < 8) : -20 ≤ x_wt X k ∧ x_wt X k ≤ 99 ∧ x_ab X k < 4 := h.2.2.2.2.2.2.1 k hk
theorem ok_fa {X : XT} (h : okX X) : x_fa X ≤ 9 := h.2.2.2.2.2.2.2.1
theorem ok_sg {X : XT} (h : okX X) : x_sg X ≤ 6 := h.2.2.2.2.2.2.2.2.1
theorem ok_sb {X : XT} (h : okX X) {i : Nat} (hi : i < 6) : x_sb X i < 8 ∧ x_sv X i < 1000 := h.2.2.2.2.2.2.2.2.2 i hi
/-! what is told of a town -/
/-- how many KNOW it -/
def kcX (X : XT) (k : Nat) : Nat := cntN (fun p => x_kn X p k) 6
/-- how HEAVY it is for p, by n -/
def hvX (X : XT) (p k n : Nat) : Int := if x_pu X k = true then 0 else (x_wt X k * (if x_ab X k = x_ki X p then 2 else 1)).tdiv (n : Int)
/-- as p KNOWS it, or would -/
def hwX (X : XT) (p k : Nat) : Int := hvX X p k (kcX X k + b2n (!x_kn X p k))
def smX (X : XT) (p : Nat) (s : Nat → Bool) (n : Nat) : Int := sumN (fun k => if s k = true then hwX X p k else 0) n
/-- what p CARRIES -/
def buX (X : XT) (p : Nat) : Nat := (smX X p (x_kn X p) 8).toNat
theorem hv_bd {X : XT} (h : okX X) {p k : Nat} (hk : k < 8) (n : Nat) : -198 ≤ hvX X p k n ∧ hvX X p k n ≤ 198 := by
  unfold hvX
  have hw := ok_wt h hk
  split
  · omega
  · generalize hz : x_wt X k * (if x_ab X k = x_ki X p then 2 else 1) = z
    have hz2 : -198 ≤ z ∧ z ≤ 198 := by
      rw [← hz]; split <;> omega
    have h2 := Int.natAbs_tdiv_le_natAbs z (n : Int)
    omega
theorem sm_bd {X : XT} (h : okX X) {p : Nat} {s : Nat → Bool} {n : Nat} (hn : n ≤ 8) : -1584 ≤ smX X p s n ∧ smX X p s n ≤ 1584 := by
  have h1 := sumN_bound (f := fun k => if s k = true then hwX X p k else 0) (c := 198) (n := n) (fun i hi => by
    split
    · exact hv_bd h (by omega) _
    · omega)
  unfold smX
  have : (n : Int) * 198 ≤ 8 * 198 := Int.mul_le_mul_of_nonneg_right (by omega) (by decide)
  omega
theorem bu_bd {X : XT} (h : okX X) (p : Nat) : buX X p ≤ 1584 := by
  have := sm_bd h (p := p) (s := x_kn X p) (n := 8) (Nat.le_refl 8)
  unfold buX; omega
theorem kc_le (X : XT) (k : Nat) : kcX X k ≤ 6 := cntN_le _ 6
theorem kc_pos {X : XT} {p k : Nat} (hp : p < 6) (h : x_kn X p k = true) : 0 < kcX X k := cntN_pos hp h
