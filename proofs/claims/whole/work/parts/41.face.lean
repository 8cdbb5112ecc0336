/-- what the pure part owes of the states of both sides behind n calls -/
def PZ_base (I : Nat → vS → vS → Prop) : Prop := ∀ (n : Nat) (g m : vS), I n g m → n ≤ 512 → (g 103 (g 0 0 0).toNatClampNeg 0 = 0) ∧ (g 104 (g 1 0 0).toNatClampNeg 0 = 0) ∧ (g 105 (g 2 0 0).toNatClampNeg 0 = 0) ∧ (vI1 g) ∧ (vI3 g) ∧ (vI4 g) ∧ (∀ u : Nat, g 27 u 0 ≤ 10) ∧ (∀ u : Nat, 0 ≤ g 26 u 0 ∧ g 26 u 0 ≤ 8) ∧ (∀ a : Nat, g 41 a 0 ≤ 40) ∧ (0 ≤ g 9 0 0 ∧ g 9 0 0 ≤ 512) ∧ (g 0 0 0 ≤ 6) ∧ (0 ≤ (m 2 0 0).toInt) ∧ ((m 2 0 0).toInt ≤ 6) ∧ (0 ≤ (m 3 0 0).toInt) ∧ ((m 3 0 0).toInt ≤ 5) ∧ (0 ≤ (m 4 0 0).toInt) ∧ ((m 4 0 0).toInt ≤ 20) ∧ (0 ≤ (m 11 0 0).toInt) ∧ ((m 11 0 0).toInt ≤ 300) ∧ (0 ≤ (m 5 0 0).toInt) ∧ ((m 5 0 0).toInt ≤ 60) ∧ (0 ≤ (m 12 0 0).toInt) ∧ ((m 12 0 0).toInt ≤ 10) ∧ (vM1 m) ∧ (vM2 m) ∧ (vM3 m) ∧ (vM4 m) ∧ (vM5 m) ∧ (vM6 m) ∧ (vM7 (20 * n) m) ∧ (vM8 m) ∧ (vM9 m) ∧ (∃ D E : Nat, vM10 D m ∧ D ≤ 40000 ∧ vM11 E m ∧ E ≤ 600) ∧ (vM12 m) ∧ (vM13 m) ∧ (0 ≤ m 10 0 0 ∧ m 10 0 0 ≤ 512) ∧ ((170 + 30 * n + (vPh g + vPb m + vPw m)) ≤ 603072) ∧ ((3000 + 200 * n + 2 * (vPh g + vPb m + vPw m)) ≤ 7207017)
def PZ_addUser (I : Nat → vS → vS → Prop) : Prop := ∀ (n : Nat) (g m : vS), I n g m → n < 512 → ∀ (x : Int32), K_L_addUser (X_X11_addUser g x) = (S_X12_addUser m x) 1 0 0 ∧ (X_X11_addUser g x = 0 → V_X11_addUser g x = V_X12_addUser m x) ∧ I (n + 1) (S_X11_addUser g x) (S_X12_addUser m x) ∧ vPh g ≤ vPh (S_X11_addUser g x) ∧ vPb m ≤ vPb (S_X12_addUser m x) ∧ vPw m ≤ vPw (S_X12_addUser m x)
def PZ_addGroup (I : Nat → vS → vS → Prop) : Prop := ∀ (n : Nat) (g m : vS), I n g m → n < 512 → ∀ (u : Int32) (x : Int32), K_L_addGroup (X_X11_addGroup g u x) = (S_X12_addGroup m u x) 1 0 0 ∧ (X_X11_addGroup g u x = 0 → V_X11_addGroup g u x = V_X12_addGroup m u x) ∧ I (n + 1) (S_X11_addGroup g u x) (S_X12_addGroup m u x) ∧ vPh g ≤ vPh (S_X11_addGroup g u x) ∧ vPb m ≤ vPb (S_X12_addGroup m u x) ∧ vPw m ≤ vPw (S_X12_addGroup m u x)
def PZ_join (I : Nat → vS → vS → Prop) : Prop := ∀ (n : Nat) (g m : vS), I n g m → n < 512 → ∀ (x : Int32) (u : Int32), K_L_join (X_X11_join g x u) = (S_X12_join m x u) 1 0 0 ∧ (X_X11_join g x u = 0 → V_X11_join g x u = V_X12_join m x u) ∧ I (n + 1) (S_X11_join g x u) (S_X12_join m x u) ∧ vPh g ≤ vPh (S_X11_join g x u) ∧ vPb m ≤ vPb (S_X12_join m x u) ∧ vPw m ≤ vPw (S_X12_join m x u)
def PZ_leave (I : Nat → vS → vS → Prop) : Prop := ∀ (n : Nat) (g m : vS), I n g m → n < 512 → ∀ (x : Int32) (u : Int32) (z : Int32), K_L_leave (X_X11_leave g x u z) = (S_X12_leave m x u z) 1 0 0 ∧ (X_X11_leave g x u z = 0 → V_X11_leave g x u z = V_X12_leave m x u z) ∧ I (n + 1) (S_X11_leave g x u z) (S_X12_leave m x u z) ∧ vPh g ≤ vPh (S_X11_leave g x u z) ∧ vPb m ≤ vPb (S_X12_leave m x u z) ∧ vPw m ≤ vPw (S_X12_leave m x u z)
def PZ_isMember (I : Nat → vS → vS → Prop) : Prop := ∀ (n : Nat) (g m : vS), I n g m → n < 512 → ∀ (x : Int32) (u : Int32), K_L_isMember (X_X11_isMember g x u) = (S_X12_isMember m x u) 1 0 0 ∧ (X_X11_isMember g x u = 0 → V_X11_isMember g x u = V_X12_isMember m x u) ∧ I (n + 1) g (S_X12_isMember m x u) ∧ vPh g ≤ vPh g ∧ vPb m ≤ vPb (S_X12_isMember m x u) ∧ vPw m ≤ vPw (S_X12_isMember m x u)
def PZ_epoch (I : Nat → vS → vS → Prop) : Prop := ∀ (n : Nat) (g m : vS), I n g m → n < 512 → ∀ (x : Int32), K_L_epoch (X_X11_epoch g x) = (S_X12_epoch m x) 1 0 0 ∧ (X_X11_epoch g x = 0 → V_X11_epoch g x = V_X12_epoch m x) ∧ I (n + 1) g (S_X12_epoch m x) ∧ vPh g ≤ vPh g ∧ vPb m ≤ vPb (S_X12_epoch m x) ∧ vPw m ≤ vPw (S_X12_epoch m x)
def PZ_known (I : Nat → vS → vS → Prop) : Prop := ∀ (n : Nat) (g m : vS), I n g m → n < 512 → ∀ (x : Int32) (u : Int32), K_L_known (X_X11_known g x u) = (S_X12_known m x u) 1 0 0 ∧ (X_X11_known g x u = 0 → V_X11_known g x u = V_X12_known m x u) ∧ I (n + 1) g (S_X12_known m x u) ∧ vPh g ≤ vPh g ∧ vPb m ≤ vPb (S_X12_known m x u) ∧ vPw m ≤ vPw (S_X12_known m x u)
def PZ_addFile (I : Nat → vS → vS → Prop) : Prop := ∀ (n : Nat) (g m : vS), I n g m → n < 512 → ∀ (x : Int32) (u : Int32), K_L_addFile (X_X11_addFile g x u) = (S_X12_addFile m x u) 1 0 0 ∧ (X_X11_addFile g x u = 0 → V_X11_addFile g x u = V_X12_addFile m x u) ∧ I (n + 1) (S_X11_addFile g x u) (S_X12_addFile m x u) ∧ vPh g ≤ vPh (S_X11_addFile g x u) ∧ vPb m ≤ vPb (S_X12_addFile m x u) ∧ vPw m ≤ vPw (S_X12_addFile m x u)
def PZ_write (I : Nat → vS → vS → Prop) : Prop := ∀ (n : Nat) (g m : vS), I n g m → n < 512 → ∀ (u : Int32) (x : Int32) (y : Int32) (z : Int32), K_L_write (X_X11_write g u x y z) = (S_X12_write m u x y z) 1 0 0 ∧ (X_X11_write g u x y z = 0 → V_X11_write g u x y z = V_X12_write m u x y z) ∧ I (n + 1) (S_X11_write g u x y z) (S_X12_write m u x y z) ∧ vPh g ≤ vPh (S_X11_write g u x y z) ∧ vPb m ≤ vPb (S_X12_write m u x y z) ∧ vPw m ≤ vPw (S_X12_write m u x y z)
def PZ_read (I : Nat → vS → vS → Prop) : Prop := ∀ (n : Nat) (g m : vS), I n g m → n < 512 → ∀ (u : Int32) (x : Int32) (y : Int32), K_L_read (X_X11_read g u x y) = (S_X12_read m u x y) 1 0 0 ∧ (X_X11_read g u x y = 0 → V_X11_read g u x y = V_X12_read m u x y) ∧ I (n + 1) g (S_X12_read m u x y) ∧ vPh g ≤ vPh g ∧ vPb m ≤ vPb (S_X12_read m u x y) ∧ vPw m ≤ vPw (S_X12_read m u x y)
def PZ_canRead (I : Nat → vS → vS → Prop) : Prop := ∀ (n : Nat) (g m : vS), I n g m → n < 512 → ∀ (u : Int32) (x : Int32) (y : Int32), K_L_canRead (X_X11_canRead g u x y) = (S_X12_canRead m u x y) 1 0 0 ∧ (X_X11_canRead g u x y = 0 → V_X11_canRead g u x y = V_X12_canRead m u x y) ∧ I (n + 1) g (S_X12_canRead m u x y) ∧ vPh g ≤ vPh g ∧ vPb m ≤ vPb (S_X12_canRead m u x y) ∧ vPw m ≤ vPw (S_X12_canRead m u x y)
def PZ_canReadByGrants (I : Nat → vS → vS → Prop) : Prop := ∀ (n : Nat) (g m : vS), I n g m → n < 512 → ∀ (u : Int32) (x : Int32) (y : Int32), K_L_canReadByGrants (X_X11_canReadByGrants g u x y) = (S_X12_canReadByGrants m u x y) 1 0 0 ∧ (X_X11_canReadByGrants g u x y = 0 → V_X11_canReadByGrants g u x y = V_X12_canReadByGrants m u x y) ∧ I (n + 1) (S_X11_canReadByGrants g u x y) (S_X12_canReadByGrants m u x y) ∧ vPh g ≤ vPh (S_X11_canReadByGrants g u x y) ∧ vPb m ≤ vPb (S_X12_canReadByGrants m u x y) ∧ vPw m ≤ vPw (S_X12_canReadByGrants m u x y)
def PZ_cipher (I : Nat → vS → vS → Prop) : Prop := ∀ (n : Nat) (g m : vS), I n g m → n < 512 → ∀ (x : Int32) (y : Int32), K_L_cipher (X_X11_cipher g x y) = (S_X12_cipher m x y) 1 0 0 ∧ (X_X11_cipher g x y = 0 → V_X11_cipher g x y = V_X12_cipher m x y) ∧ I (n + 1) g (S_X12_cipher m x y) ∧ vPh g ≤ vPh g ∧ vPb m ≤ vPb (S_X12_cipher m x y) ∧ vPw m ≤ vPw (S_X12_cipher m x y)
def PZ_version (I : Nat → vS → vS → Prop) : Prop := ∀ (n : Nat) (g m : vS), I n g m → n < 512 → ∀ (x : Int32) (y : Int32), K_L_version (X_X11_version g x y) = (S_X12_version m x y) 1 0 0 ∧ (X_X11_version g x y = 0 → V_X11_version g x y = V_X12_version m x y) ∧ I (n + 1) g (S_X12_version m x y) ∧ vPh g ≤ vPh g ∧ vPb m ≤ vPb (S_X12_version m x y) ∧ vPw m ≤ vPw (S_X12_version m x y)
def PZ_writes (I : Nat → vS → vS → Prop) : Prop := ∀ (n : Nat) (g m : vS), I n g m → n < 512 → ∀ (x : Int32) (y : Int32), K_L_writes (X_X11_writes g x y) = (S_X12_writes m x y) 1 0 0 ∧ (X_X11_writes g x y = 0 → V_X11_writes g x y = V_X12_writes m x y) ∧ I (n + 1) g (S_X12_writes m x y) ∧ vPh g ≤ vPh g ∧ vPb m ≤ vPb (S_X12_writes m x y) ∧ vPw m ≤ vPw (S_X12_writes m x y)
def PZ_mark (I : Nat → vS → vS → Prop) : Prop := ∀ (n : Nat) (g m : vS), I n g m → n < 512 → ∀ (x : Int32), K_L_mark (X_X11_mark g x) = (S_X12_mark m x) 1 0 0 ∧ (X_X11_mark g x = 0 → V_X11_mark g x = V_X12_mark m x) ∧ I (n + 1) g (S_X12_mark m x) ∧ vPh g ≤ vPh g ∧ vPb m ≤ vPb (S_X12_mark m x) ∧ vPw m ≤ vPw (S_X12_mark m x)
def PZ_spoil (I : Nat → vS → vS → Prop) : Prop := ∀ (n : Nat) (g m : vS), I n g m → n < 512 → ∀ (x : Int32) (y : Int32) (z : Int32), K_L_spoil (X_X11_spoil g x y z) = (S_X12_spoil m x y z) 1 0 0 ∧ (X_X11_spoil g x y z = 0 → V_X11_spoil g x y z = V_X12_spoil m x y z) ∧ I (n + 1) (S_X11_spoil g x y z) (S_X12_spoil m x y z) ∧ vPh g ≤ vPh (S_X11_spoil g x y z) ∧ vPb m ≤ vPb (S_X12_spoil m x y z) ∧ vPw m ≤ vPw (S_X12_spoil m x y z)
def PZ_status (I : Nat → vS → vS → Prop) : Prop := ∀ (n : Nat) (g m : vS), I n g m → n < 512 → ∀ (x : Int32), K_L_status (X_X11_status g x) = (S_X12_status m x) 1 0 0 ∧ (X_X11_status g x = 0 → V_X11_status g x = V_X12_status m x) ∧ I (n + 1) g (S_X12_status m x) ∧ vPh g ≤ vPh g ∧ vPb m ≤ vPb (S_X12_status m x) ∧ vPw m ≤ vPw (S_X12_status m x)
def PZ_throwAway (I : Nat → vS → vS → Prop) : Prop := ∀ (n : Nat) (g m : vS), I n g m → n < 512 → ∀ (u : Int32) (x : Int32), K_L_throwAway (X_X11_throwAway g u x) = (S_X12_throwAway m u x) 1 0 0 ∧ (X_X11_throwAway g u x = 0 → V_X11_throwAway g u x = V_X12_throwAway m u x) ∧ I (n + 1) (S_X11_throwAway g u x) (S_X12_throwAway m u x) ∧ vPh g ≤ vPh (S_X11_throwAway g u x) ∧ vPb m ≤ vPb (S_X12_throwAway m u x) ∧ vPw m ≤ vPw (S_X12_throwAway m u x)
def PZ_purge (I : Nat → vS → vS → Prop) : Prop := ∀ (n : Nat) (g m : vS), I n g m → n < 512 → V_X11_purge g = V_X12_purge m ∧ I (n + 1) (S_X11_purge g) (S_X12_purge m) ∧ vPh g ≤ vPh (S_X11_purge g) ∧ vPb m ≤ vPb (S_X12_purge m) ∧ vPw m ≤ vPw (S_X12_purge m)
def PZ_parts (I : Nat → vS → vS → Prop) : Prop := ∀ (n : Nat) (g m : vS), I n g m → n < 512 → ∀ (x : Int32), K_L_parts (X_X11_parts g x) = (S_X12_parts m x) 1 0 0 ∧ (X_X11_parts g x = 0 → V_X11_parts g x = V_X12_parts m x) ∧ I (n + 1) g (S_X12_parts m x) ∧ vPh g ≤ vPh g ∧ vPb m ≤ vPb (S_X12_parts m x) ∧ vPw m ≤ vPw (S_X12_parts m x)
def PZ_tell (I : Nat → vS → vS → Prop) : Prop := ∀ (n : Nat) (g m : vS), I n g m → n < 512 → ∀ (u : Int32) (x : Int32) (y : Int32), K_L_tell (X_X11_tell g u x y) = (S_X12_tell m u x y) 1 0 0 ∧ (X_X11_tell g u x y = 0 → V_X11_tell g u x y = V_X12_tell m u x y) ∧ I (n + 1) (S_X11_tell g u x y) (S_X12_tell m u x y) ∧ vPh g ≤ vPh (S_X11_tell g u x y) ∧ vPb m ≤ vPb (S_X12_tell m u x y) ∧ vPw m ≤ vPw (S_X12_tell m u x y)
def PZ_ask (I : Nat → vS → vS → Prop) : Prop := ∀ (n : Nat) (g m : vS), I n g m → n < 512 → ∀ (u : Int32) (x : Int32) (z : Int32), K_L_ask (X_X11_ask g u x z) = (S_X12_ask m u x z) 1 0 0 ∧ (X_X11_ask g u x z = 0 → V_X11_ask g u x z = V_X12_ask m u x z) ∧ I (n + 1) (S_X11_ask g u x z) (S_X12_ask m u x z) ∧ vPh g ≤ vPh (S_X11_ask g u x z) ∧ vPb m ≤ vPb (S_X12_ask m u x z) ∧ vPw m ≤ vPw (S_X12_ask m u x z)
def PZ_foundAt (I : Nat → vS → vS → Prop) : Prop := ∀ (n : Nat) (g m : vS), I n g m → n < 512 → ∀ (x : Int32), K_L_foundAt (X_X11_foundAt g x) = (S_X12_foundAt m x) 1 0 0 ∧ (X_X11_foundAt g x = 0 → V_X11_foundAt g x = V_X12_foundAt m x) ∧ I (n + 1) g (S_X12_foundAt m x) ∧ vPh g ≤ vPh g ∧ vPb m ≤ vPb (S_X12_foundAt m x) ∧ vPw m ≤ vPw (S_X12_foundAt m x)
def PZ_shown (I : Nat → vS → vS → Prop) : Prop := ∀ (n : Nat) (g m : vS), I n g m → n < 512 → ∀ (x : Int32), K_L_shown (X_X11_shown g x) = (S_X12_shown m x) 1 0 0 ∧ (X_X11_shown g x = 0 → V_X11_shown g x = V_X12_shown m x) ∧ I (n + 1) g (S_X12_shown m x) ∧ vPh g ≤ vPh g ∧ vPb m ≤ vPb (S_X12_shown m x) ∧ vPw m ≤ vPw (S_X12_shown m x)
def PZ_leaves (I : Nat → vS → vS → Prop) : Prop := ∀ (n : Nat) (g m : vS), I n g m → n < 512 → V_X11_leaves g = V_X12_leaves m ∧ I (n + 1) g (S_X12_leaves m) ∧ vPh g ≤ vPh g ∧ vPb m ≤ vPb (S_X12_leaves m) ∧ vPw m ≤ vPw (S_X12_leaves m)
def PZ_leaf (I : Nat → vS → vS → Prop) : Prop := ∀ (n : Nat) (g m : vS), I n g m → n < 512 → ∀ (x : Int32), K_L_leaf (X_X11_leaf g x) = (S_X12_leaf m x) 1 0 0 ∧ (X_X11_leaf g x = 0 → V_X11_leaf g x = V_X12_leaf m x) ∧ I (n + 1) g (S_X12_leaf m x) ∧ vPh g ≤ vPh g ∧ vPb m ≤ vPb (S_X12_leaf m x) ∧ vPw m ≤ vPw (S_X12_leaf m x)
def PZ_root (I : Nat → vS → vS → Prop) : Prop := ∀ (n : Nat) (g m : vS), I n g m → n < 512 → ∀ (x : Int32), K_L_root (X_X11_root g x) = (S_X12_root m x) 1 0 0 ∧ (X_X11_root g x = 0 → V_X11_root g x = V_X12_root m x) ∧ I (n + 1) g (S_X12_root m x) ∧ vPh g ≤ vPh g ∧ vPb m ≤ vPb (S_X12_root m x) ∧ vPw m ≤ vPw (S_X12_root m x)
def PZ_proofLength (I : Nat → vS → vS → Prop) : Prop := ∀ (n : Nat) (g m : vS), I n g m → n < 512 → ∀ (x : Int32) (y : Int32), K_L_proofLength (X_X11_proofLength g x y) = (S_X12_proofLength m x y) 1 0 0 ∧ (X_X11_proofLength g x y = 0 → V_X11_proofLength g x y = V_X12_proofLength m x y) ∧ I (n + 1) (S_X11_proofLength g x y) (S_X12_proofLength m x y) ∧ vPh g ≤ vPh (S_X11_proofLength g x y) ∧ vPb m ≤ vPb (S_X12_proofLength m x y) ∧ vPw m ≤ vPw (S_X12_proofLength m x y)
def PZ_proofAt (I : Nat → vS → vS → Prop) : Prop := ∀ (n : Nat) (g m : vS), I n g m → n < 512 → ∀ (x : Int32) (y : Int32) (z : Int32), K_L_proofAt (X_X11_proofAt g x y z) = (S_X12_proofAt m x y z) 1 0 0 ∧ (X_X11_proofAt g x y z = 0 → V_X11_proofAt g x y z = V_X12_proofAt m x y z) ∧ I (n + 1) (S_X11_proofAt g x y z) (S_X12_proofAt m x y z) ∧ vPh g ≤ vPh (S_X11_proofAt g x y z) ∧ vPb m ≤ vPb (S_X12_proofAt m x y z) ∧ vPw m ≤ vPw (S_X12_proofAt m x y z)
def PZ_prefixLength (I : Nat → vS → vS → Prop) : Prop := ∀ (n : Nat) (g m : vS), I n g m → n < 512 → ∀ (x : Int32) (y : Int32), K_L_prefixLength (X_X11_prefixLength g x y) = (S_X12_prefixLength m x y) 1 0 0 ∧ (X_X11_prefixLength g x y = 0 → V_X11_prefixLength g x y = V_X12_prefixLength m x y) ∧ I (n + 1) (S_X11_prefixLength g x y) (S_X12_prefixLength m x y) ∧ vPh g ≤ vPh (S_X11_prefixLength g x y) ∧ vPb m ≤ vPb (S_X12_prefixLength m x y) ∧ vPw m ≤ vPw (S_X12_prefixLength m x y)
def PZ_prefixAt (I : Nat → vS → vS → Prop) : Prop := ∀ (n : Nat) (g m : vS), I n g m → n < 512 → ∀ (x : Int32) (y : Int32) (z : Int32), K_L_prefixAt (X_X11_prefixAt g x y z) = (S_X12_prefixAt m x y z) 1 0 0 ∧ (X_X11_prefixAt g x y z = 0 → V_X11_prefixAt g x y z = V_X12_prefixAt m x y z) ∧ I (n + 1) (S_X11_prefixAt g x y z) (S_X12_prefixAt m x y z) ∧ vPh g ≤ vPh (S_X11_prefixAt g x y z) ∧ vPb m ≤ vPb (S_X12_prefixAt m x y z) ∧ vPw m ≤ vPw (S_X12_prefixAt m x y z)
def PZ_forget (I : Nat → vS → vS → Prop) : Prop := ∀ (n : Nat) (g m : vS), I n g m → n < 512 → ∀ (x : Int32), K_L_forget (X_X11_forget g x) = (S_X12_forget m x) 1 0 0 ∧ (X_X11_forget g x = 0 → V_X11_forget g x = V_X12_forget m x) ∧ I (n + 1) (S_X11_forget g x) (S_X12_forget m x) ∧ vPh g ≤ vPh (S_X11_forget g x) ∧ vPb m ≤ vPb (S_X12_forget m x) ∧ vPw m ≤ vPw (S_X12_forget m x)
def PZ_show (I : Nat → vS → vS → Prop) : Prop := ∀ (n : Nat) (g m : vS), I n g m → n < 512 → ∀ (u : Int32) (x : Int32), K_L_show (X_X11_show g u x) = (S_X12_show m u x) 1 0 0 ∧ (X_X11_show g u x = 0 → V_X11_show g u x = V_X12_show m u x) ∧ I (n + 1) (S_X11_show g u x) (S_X12_show m u x) ∧ vPh g ≤ vPh (S_X11_show g u x) ∧ vPb m ≤ vPb (S_X12_show m u x) ∧ vPw m ≤ vPw (S_X12_show m u x)
def PZ_meet (I : Nat → vS → vS → Prop) : Prop := ∀ (n : Nat) (g m : vS), I n g m → n < 512 → ∀ (u : Int32) (x : Int32), K_L_meet (X_X11_meet g u x) = (S_X12_meet m u x) 1 0 0 ∧ (X_X11_meet g u x = 0 → V_X11_meet g u x = V_X12_meet m u x) ∧ I (n + 1) (S_X11_meet g u x) (S_X12_meet m u x) ∧ vPh g ≤ vPh (S_X11_meet g u x) ∧ vPb m ≤ vPb (S_X12_meet m u x) ∧ vPw m ≤ vPw (S_X12_meet m u x)
def PZ_head (I : Nat → vS → vS → Prop) : Prop := ∀ (n : Nat) (g m : vS), I n g m → n < 512 → ∀ (x : Int32), K_L_head (X_X11_head g x) = (S_X12_head m x) 1 0 0 ∧ (X_X11_head g x = 0 → V_X11_head g x = V_X12_head m x) ∧ I (n + 1) g (S_X12_head m x) ∧ vPh g ≤ vPh g ∧ vPb m ≤ vPb (S_X12_head m x) ∧ vPw m ≤ vPw (S_X12_head m x)
def PZ_alarms (I : Nat → vS → vS → Prop) : Prop := ∀ (n : Nat) (g m : vS), I n g m → n < 512 → ∀ (x : Int32), K_L_alarms (X_X11_alarms g x) = (S_X12_alarms m x) 1 0 0 ∧ (X_X11_alarms g x = 0 → V_X11_alarms g x = V_X12_alarms m x) ∧ I (n + 1) g (S_X12_alarms m x) ∧ vPh g ≤ vPh g ∧ vPb m ≤ vPb (S_X12_alarms m x) ∧ vPw m ≤ vPw (S_X12_alarms m x)
def PZ_split (I : Nat → vS → vS → Prop) : Prop := ∀ (n : Nat) (g m : vS), I n g m → n < 512 → ∀ (x : Int32) (y : Int32) (z : Int32), K_L_split (X_X11_split g x y z) = (S_X12_split m x y z) 1 0 0 ∧ (X_X11_split g x y z = 0 → V_X11_split g x y z = V_X12_split m x y z) ∧ I (n + 1) (S_X11_split g x y z) (S_X12_split m x y z) ∧ vPh g ≤ vPh (S_X11_split g x y z) ∧ vPb m ≤ vPb (S_X12_split m x y z) ∧ vPw m ≤ vPw (S_X12_split m x y z)
def PZ_share (I : Nat → vS → vS → Prop) : Prop := ∀ (n : Nat) (g m : vS), I n g m → n < 512 → ∀ (u : Int32) (x : Int32), K_L_share (X_X11_share g u x) = (S_X12_share m u x) 1 0 0 ∧ (X_X11_share g u x = 0 → V_X11_share g u x = V_X12_share m u x) ∧ I (n + 1) g (S_X12_share m u x) ∧ vPh g ≤ vPh g ∧ vPb m ≤ vPb (S_X12_share m u x) ∧ vPw m ≤ vPw (S_X12_share m u x)
def PZ_collect (I : Nat → vS → vS → Prop) : Prop := ∀ (n : Nat) (g m : vS), I n g m → n < 512 → ∀ (x : Int32) (y : Int32), K_L_collect (X_X11_collect g x y) = (S_X12_collect m x y) 1 0 0 ∧ (X_X11_collect g x y = 0 → V_X11_collect g x y = V_X12_collect m x y) ∧ I (n + 1) (S_X11_collect g x y) (S_X12_collect m x y) ∧ vPh g ≤ vPh (S_X11_collect g x y) ∧ vPb m ≤ vPb (S_X12_collect m x y) ∧ vPw m ≤ vPw (S_X12_collect m x y)
def PZ_recovered (I : Nat → vS → vS → Prop) : Prop := ∀ (n : Nat) (g m : vS), I n g m → n < 512 → K_L_recovered (X_X11_recovered g) = (S_X12_recovered m) 1 0 0 ∧ (X_X11_recovered g = 0 → V_X11_recovered g = V_X12_recovered m) ∧ I (n + 1) g (S_X12_recovered m) ∧ vPh g ≤ vPh g ∧ vPb m ≤ vPb (S_X12_recovered m) ∧ vPw m ≤ vPw (S_X12_recovered m)
def PZ_drop (I : Nat → vS → vS → Prop) : Prop := ∀ (n : Nat) (g m : vS), I n g m → n < 512 → V_X11_drop g = V_X12_drop m ∧ I (n + 1) (S_X11_drop g) (S_X12_drop m) ∧ vPh g ≤ vPh (S_X11_drop g) ∧ vPb m ≤ vPb (S_X12_drop m) ∧ vPw m ≤ vPw (S_X12_drop m)
def PZ_goAway (I : Nat → vS → vS → Prop) : Prop := ∀ (n : Nat) (g m : vS), I n g m → n < 512 → ∀ (u : Int32), K_L_goAway (X_X11_goAway g u) = (S_X12_goAway m u) 1 0 0 ∧ (X_X11_goAway g u = 0 → V_X11_goAway g u = V_X12_goAway m u) ∧ I (n + 1) (S_X11_goAway g u) (S_X12_goAway m u) ∧ vPh g ≤ vPh (S_X11_goAway g u) ∧ vPb m ≤ vPb (S_X12_goAway m u) ∧ vPw m ≤ vPw (S_X12_goAway m u)
def PZ_draft (I : Nat → vS → vS → Prop) : Prop := ∀ (n : Nat) (g m : vS), I n g m → n < 512 → ∀ (u : Int32) (x : Int32) (y : Int32) (zz : Int32), K_L_draft (X_X11_draft g u x y zz) = (S_X12_draft m u x y zz) 1 0 0 ∧ (X_X11_draft g u x y zz = 0 → V_X11_draft g u x y zz = V_X12_draft m u x y zz) ∧ I (n + 1) (S_X11_draft g u x y zz) (S_X12_draft m u x y zz) ∧ vPh g ≤ vPh (S_X11_draft g u x y zz) ∧ vPb m ≤ vPb (S_X12_draft m u x y zz) ∧ vPw m ≤ vPw (S_X12_draft m u x y zz)
def PZ_comeBack (I : Nat → vS → vS → Prop) : Prop := ∀ (n : Nat) (g m : vS), I n g m → n < 512 → ∀ (u : Int32), K_L_comeBack (X_X11_comeBack g u) = (S_X12_comeBack m u) 1 0 0 ∧ (X_X11_comeBack g u = 0 → V_X11_comeBack g u = V_X12_comeBack m u) ∧ I (n + 1) (S_X11_comeBack g u) (S_X12_comeBack m u) ∧ vPh g ≤ vPh (S_X11_comeBack g u) ∧ vPb m ≤ vPb (S_X12_comeBack m u) ∧ vPw m ≤ vPw (S_X12_comeBack m u)
def PZ_conflicts (I : Nat → vS → vS → Prop) : Prop := ∀ (n : Nat) (g m : vS), I n g m → n < 512 → V_X11_conflicts g = V_X12_conflicts m ∧ I (n + 1) g (S_X12_conflicts m) ∧ vPh g ≤ vPh g ∧ vPb m ≤ vPb (S_X12_conflicts m) ∧ vPw m ≤ vPw (S_X12_conflicts m)
def PZ_conflictAt (I : Nat → vS → vS → Prop) : Prop := ∀ (n : Nat) (g m : vS), I n g m → n < 512 → ∀ (x : Int32), K_L_conflictAt (X_X11_conflictAt g x) = (S_X12_conflictAt m x) 1 0 0 ∧ (X_X11_conflictAt g x = 0 → V_X11_conflictAt g x = V_X12_conflictAt m x) ∧ I (n + 1) g (S_X12_conflictAt m x) ∧ vPh g ≤ vPh g ∧ vPb m ≤ vPb (S_X12_conflictAt m x) ∧ vPw m ≤ vPw (S_X12_conflictAt m x)
def PZ_load (I : Nat → vS → vS → Prop) : Prop := ∀ (n : Nat) (g m : vS), I n g m → n < 512 → ∀ (x : Int32), K_L_load (X_X11_load g x) = (S_X12_load m x) 1 0 0 ∧ (X_X11_load g x = 0 → V_X11_load g x = V_X12_load m x) ∧ I (n + 1) g (S_X12_load m x) ∧ vPh g ≤ vPh g ∧ vPb m ≤ vPb (S_X12_load m x) ∧ vPw m ≤ vPw (S_X12_load m x)
def PZ_loadBits (I : Nat → vS → vS → Prop) : Prop := ∀ (n : Nat) (g m : vS), I n g m → n < 512 → ∀ (x : Int32), K_L_loadBits (X_X11_loadBits g x) = (S_X12_loadBits m x) 1 0 0 ∧ (X_X11_loadBits g x = 0 → V_X11_loadBits g x = V_X12_loadBits m x) ∧ I (n + 1) g (S_X12_loadBits m x) ∧ vPh g ≤ vPh g ∧ vPb m ≤ vPb (S_X12_loadBits m x) ∧ vPw m ≤ vPw (S_X12_loadBits m x)
def PZ_meanTold (I : Nat → vS → vS → Prop) : Prop := ∀ (n : Nat) (g m : vS), I n g m → n < 512 → K_L_meanTold (X_X11_meanTold g) = (S_X12_meanTold m) 1 0 0 ∧ (X_X11_meanTold g = 0 → V_X11_meanTold g = V_X12_meanTold m) ∧ I (n + 1) g (S_X12_meanTold m) ∧ vPh g ≤ vPh g ∧ vPb m ≤ vPb (S_X12_meanTold m) ∧ vPw m ≤ vPw (S_X12_meanTold m)
def PZ_meanToldBits (I : Nat → vS → vS → Prop) : Prop := ∀ (n : Nat) (g m : vS), I n g m → n < 512 → K_L_meanToldBits (X_X11_meanToldBits g) = (S_X12_meanToldBits m) 1 0 0 ∧ (X_X11_meanToldBits g = 0 → V_X11_meanToldBits g = V_X12_meanToldBits m) ∧ I (n + 1) g (S_X12_meanToldBits m) ∧ vPh g ≤ vPh g ∧ vPb m ≤ vPb (S_X12_meanToldBits m) ∧ vPw m ≤ vPw (S_X12_meanToldBits m)
def PZ_isSound (I : Nat → vS → vS → Prop) : Prop := ∀ (n : Nat) (g m : vS), I n g m → n < 512 → V_X11_isSound g = V_X12_isSound m ∧ I (n + 1) (S_X11_isSound g) (S_X12_isSound m) ∧ vPh g ≤ vPh (S_X11_isSound g) ∧ vPb m ≤ vPb (S_X12_isSound m) ∧ vPw m ≤ vPw (S_X12_isSound m)
def PZ_skip (I : Nat → vS → vS → Prop) : Prop := ∀ (n : Nat) (g m : vS), I n g m → n < 512 → I (n + 1) g m
def LawOk (I : Nat → vS → vS → Prop) : Prop := I 0 vS0 (mS 9) ∧ PZ_base I ∧ PZ_skip I ∧ PZ_addUser I ∧ PZ_addGroup I ∧ PZ_join I ∧ PZ_leave I ∧ PZ_isMember I ∧ PZ_epoch I ∧ PZ_known I ∧ PZ_addFile I ∧ PZ_write I ∧ PZ_read I ∧ PZ_canRead I ∧ PZ_canReadByGrants I ∧ PZ_cipher I ∧ PZ_version I ∧ PZ_writes I ∧ PZ_mark I ∧ PZ_spoil I ∧ PZ_status I ∧ PZ_throwAway I ∧ PZ_purge I ∧ PZ_parts I ∧ PZ_tell I ∧ PZ_ask I ∧ PZ_foundAt I ∧ PZ_shown I ∧ PZ_leaves I ∧ PZ_leaf I ∧ PZ_root I ∧ PZ_proofLength I ∧ PZ_proofAt I ∧ PZ_prefixLength I ∧ PZ_prefixAt I ∧ PZ_forget I ∧ PZ_show I ∧ PZ_meet I ∧ PZ_head I ∧ PZ_alarms I ∧ PZ_split I ∧ PZ_share I ∧ PZ_collect I ∧ PZ_recovered I ∧ PZ_drop I ∧ PZ_goAway I ∧ PZ_draft I ∧ PZ_comeBack I ∧ PZ_conflicts I ∧ PZ_conflictAt I ∧ PZ_load I ∧ PZ_loadBits I ∧ PZ_meanTold I ∧ PZ_meanToldBits I ∧ PZ_isSound I
/-- the script, the two cells for answers -/
def rL (_N : Nat) (_sc : Nat → Int32) (o : Nat → Int64) (d : Nat → UInt64) : vH := fun n => if n = (91, 0) then some (vJ 1 o) else if n = (92, 0) then some (vDb 1 d) else none
section RL
variable {N : Nat} {sc : Nat → Int32} {o o2 : Nat → Int64} {d d2 : Nat → UInt64} {g m : vS}
theorem rL_91 : rL N sc o d (91, 0) = some (vJ 1 o) := rfl
theorem rL_92 : rL N sc o d (92, 0) = some (vDb 1 d) := rfl
theorem rL_o : vup (rL N sc o d) (91, 0) (vJ 1 o2) = rL N sc o2 d := funext fun n => by
  by_cases q : n = (91, 0)
  · subst q; rw [vup_s]; rfl
  · rw [vup_n q]
    unfold rL
    rw [if_neg q, if_neg q]
theorem rL_d : vup (rL N sc o d) (92, 0) (vDb 1 d2) = rL N sc o d2 := funext fun n => by
  by_cases q : n = (92, 0)
  · subst q; rw [vup_s]; rfl
  · rw [vup_n q]
    unfold rL
    by_cases q3 : n = (91, 0)
    · rw [if_pos q3, if_pos q3]
    · rw [if_neg q3, if_neg q3, if_neg q, if_neg q]
theorem rL_no : vNo (rL N sc o d) := fun G A A' n f hf => by
  unfold rL at hf
  by_cases q3 : n = (91, 0)
  · rw [if_pos q3] at hf; cases hf; rfl
  · rw [if_neg q3] at hf
    by_cases q4 : n = (92, 0)
    · rw [if_pos q4] at hf; cases hf; rfl
    · rw [if_neg q4] at hf; cases hf
theorem rL_ifo {P : Prop} [Decidable P] : (if P then vup (wm m (rL N sc o d)) (91, 0) (vJ 1 o2) else wm m (rL N sc o d)) = wm m (rL N sc (if P then o2 else o) d) := by
  by_cases q : P
  · rw [if_pos q, if_pos q, wm_vup (by decide), rL_o]
  · rw [if_neg q, if_neg q]
theorem rL_ifd {P : Prop} [Decidable P] : (if P then vup (wm m (rL N sc o d)) (92, 0) (vDb 1 d2) else wm m (rL N sc o d)) = wm m (rL N sc o (if P then d2 else d)) := by
  by_cases q : P
  · rw [if_pos q, if_pos q, wm_vup (by decide), rL_d]
  · rw [if_neg q, if_neg q]
end RL
theorem thrown_eq {g : vS} {k : Int32} (h : k = g 1 0 0) : V_X12_thrown g = k := h.symm
section SX
variable {G : vG} {X : vX} {cc : ByteArray} {nL : Nat} {own mn : String} {rt : Option FieldType} {lev MC MS : Nat} {A : vN → Nat} {h : vH} {kc ns : Nat} {Q : State → Prop} {pc : Nat} {lv : List (Nat × Value)} {st : List Value} {b N : Nat} {sc : Nat → Int32}
theorem v_sld (C : vC G X cc nL own rt mn lev MC MS) (hX : va_X b N sc X.2.2.2.2.1 X.2.2.2.2.1.heap) (hbl : b < X.2.2.2.2.1.heap.size) (hbA : ¬ vAd G b) {i : Int32} {z : Nat} (hi : vp_in i N ∧ i.toNatClampNeg = z) (hd : decode cc pc = .ok (.iaload, 1)) (k : V G nL X A h kc ns Q (pc + 1) lv (.int (sc z) :: st)) : V G nL X A h kc ns Q pc lv (.int i :: .ref b :: st) := fun H locs ls hW hS hl => va_sld C.exec C.code hX hbl hbA hS hi.1 hd (by rw [hi.2]; exact k H locs ls hW hS hl)
theorem v_slen (C : vC G X cc nL own rt mn lev MC MS) (hX : va_X b N sc X.2.2.2.2.1 X.2.2.2.2.1.heap) (hbl : b < X.2.2.2.2.1.heap.size) (hbA : ¬ vAd G b) (hd : decode cc pc = .ok (.arraylength, 1)) (k : V G nL X A h kc ns Q (pc + 1) lv (.int (nI N) :: st)) : V G nL X A h kc ns Q pc lv (.ref b :: st) := fun H locs ls hW hS hl => va_slen C.exec C.code hX hbl hbA hS hd (k H locs ls hW hS hl)
end SX
theorem lg_self {x : Int64} : lg_cmp x x = 0 := by
  unfold lg_cmp
  rw [if_neg (by rw [gt_iff_lt, Int64.lt_iff_toInt_lt]; omega), if_pos rfl]
theorem dcmp_l {x : UInt64} (h : vf_n64 x) : Op.cmpValue (FP.dcmp x x) .l = 0 := by
  have e : FP.dcmp x x = some .eq := FP.Core.dcmp_self (fn64_iff.mp h)
  rw [e]; rfl
theorem nan_meanTold {g : vS} (hm0 : 0 ≤ g 9 0 0) (hm : g 9 0 0 ≤ 512) : vf_n64 (V_X11_meanTold g) := by
  unfold V_X11_meanTold
  (repeat' split) <;> first | exact nan_meanFiles hm0 hm | (unfold vf_n64; decide +kernel)
theorem ix_0 {n N : Nat} (h : 5 * n + 5 ≤ N) (hN : N ≤ 2560) : vp_in (nI (5 * n)) N ∧ (nI (5 * n)).toNatClampNeg = 5 * n := by
  have e : (nI (5 * n)).toInt = ((5 * n : Nat) : Int) := nI_toInt (by omega)
  exact ⟨by simp only [vp_in_iff]; omega, nI_clamp (by omega)⟩
theorem ix_1 {n N : Nat} (h : 5 * n + 5 ≤ N) (hN : N ≤ 2560) : vp_in (nI (5 * n) + 1) N ∧ (nI (5 * n) + 1).toNatClampNeg = 5 * n + 1 := by
  have e : nI (5 * n) + 1 = nI (5 * n + 1) := (Int32.ofNat_add (5 * n) 1).symm
  rw [e]
  have e2 : (nI (5 * n + 1)).toInt = ((5 * n + 1 : Nat) : Int) := nI_toInt (by omega)
  exact ⟨by simp only [vp_in_iff]; omega, nI_clamp (by omega)⟩
theorem ix_2 {n N : Nat} (h : 5 * n + 5 ≤ N) (hN : N ≤ 2560) : vp_in (nI (5 * n) + 2) N ∧ (nI (5 * n) + 2).toNatClampNeg = 5 * n + 2 := by
  have e : nI (5 * n) + 2 = nI (5 * n + 2) := (Int32.ofNat_add (5 * n) 2).symm
  rw [e]
  have e2 : (nI (5 * n + 2)).toInt = ((5 * n + 2 : Nat) : Int) := nI_toInt (by omega)
  exact ⟨by simp only [vp_in_iff]; omega, nI_clamp (by omega)⟩
theorem ix_3 {n N : Nat} (h : 5 * n + 5 ≤ N) (hN : N ≤ 2560) : vp_in (nI (5 * n) + 3) N ∧ (nI (5 * n) + 3).toNatClampNeg = 5 * n + 3 := by
  have e : nI (5 * n) + 3 = nI (5 * n + 3) := (Int32.ofNat_add (5 * n) 3).symm
  rw [e]
  have e2 : (nI (5 * n + 3)).toInt = ((5 * n + 3 : Nat) : Int) := nI_toInt (by omega)
  exact ⟨by simp only [vp_in_iff]; omega, nI_clamp (by omega)⟩
theorem ix_4 {n N : Nat} (h : 5 * n + 5 ≤ N) (hN : N ≤ 2560) : vp_in (nI (5 * n) + 4) N ∧ (nI (5 * n) + 4).toNatClampNeg = 5 * n + 4 := by
  have e : nI (5 * n) + 4 = nI (5 * n + 4) := (Int32.ofNat_add (5 * n) 4).symm
  rw [e]
  have e2 : (nI (5 * n + 4)).toInt = ((5 * n + 4 : Nat) : Int) := nI_toInt (by omega)
  exact ⟨by simp only [vp_in_iff]; omega, nI_clamp (by omega)⟩
theorem kz_addUser {x : Nat} (h : x ∈ ([0, 2, 3] : List Nat)) (k : K_L_addUser x = 0) : x = 0 := by
  simp only [List.mem_cons, List.not_mem_nil, or_false] at h
  rcases h with rfl | rfl | rfl <;> first | rfl | exact absurd k (by decide)
theorem kz_addGroup {x : Nat} (h : x ∈ ([0, 1, 2, 3] : List Nat)) (k : K_L_addGroup x = 0) : x = 0 := by
  simp only [List.mem_cons, List.not_mem_nil, or_false] at h
  rcases h with rfl | rfl | rfl | rfl <;> first | rfl | exact absurd k (by decide)
theorem kz_join {x : Nat} (h : x ∈ ([0, 1, 3] : List Nat)) (k : K_L_join x = 0) : x = 0 := by
  simp only [List.mem_cons, List.not_mem_nil, or_false] at h
  rcases h with rfl | rfl | rfl <;> first | rfl | exact absurd k (by decide)
theorem kz_leave {x : Nat} (h : x ∈ ([0, 1, 2, 3] : List Nat)) (k : K_L_leave x = 0) : x = 0 := by
  simp only [List.mem_cons, List.not_mem_nil, or_false] at h
  rcases h with rfl | rfl | rfl | rfl <;> first | rfl | exact absurd k (by decide)
theorem kz_isMember {x : Nat} (h : x ∈ ([0, 1] : List Nat)) (k : K_L_isMember x = 0) : x = 0 := by
  simp only [List.mem_cons, List.not_mem_nil, or_false] at h
  rcases h with rfl | rfl <;> first | rfl | exact absurd k (by decide)
theorem kz_epoch {x : Nat} (h : x ∈ ([0, 1] : List Nat)) (k : K_L_epoch x = 0) : x = 0 := by
  simp only [List.mem_cons, List.not_mem_nil, or_false] at h
  rcases h with rfl | rfl <;> first | rfl | exact absurd k (by decide)
theorem kz_known {x : Nat} (h : x ∈ ([0, 1] : List Nat)) (k : K_L_known x = 0) : x = 0 := by
  simp only [List.mem_cons, List.not_mem_nil, or_false] at h
  rcases h with rfl | rfl <;> first | rfl | exact absurd k (by decide)
theorem kz_addFile {x : Nat} (h : x ∈ ([0, 1, 3, 4] : List Nat)) (k : K_L_addFile x = 0) : x = 0 := by
  simp only [List.mem_cons, List.not_mem_nil, or_false] at h
  rcases h with rfl | rfl | rfl | rfl <;> first | rfl | exact absurd k (by decide)
theorem kz_write {x : Nat} (h : x ∈ ([0, 1, 2, 3, 4] : List Nat)) (k : K_L_write x = 0) : x = 0 := by
  simp only [List.mem_cons, List.not_mem_nil, or_false] at h
  rcases h with rfl | rfl | rfl | rfl | rfl <;> first | rfl | exact absurd k (by decide)
theorem kz_read {x : Nat} (h : x ∈ ([0, 1, 2, 3, 4] : List Nat)) (k : K_L_read x = 0) : x = 0 := by
  simp only [List.mem_cons, List.not_mem_nil, or_false] at h
  rcases h with rfl | rfl | rfl | rfl | rfl <;> first | rfl | exact absurd k (by decide)
theorem kz_canRead {x : Nat} (h : x ∈ ([0, 1, 2] : List Nat)) (k : K_L_canRead x = 0) : x = 0 := by
  simp only [List.mem_cons, List.not_mem_nil, or_false] at h
  rcases h with rfl | rfl | rfl <;> first | rfl | exact absurd k (by decide)
theorem kz_canReadByGrants {x : Nat} (h : x ∈ ([0, 1, 2] : List Nat)) (k : K_L_canReadByGrants x = 0) : x = 0 := by
  simp only [List.mem_cons, List.not_mem_nil, or_false] at h
  rcases h with rfl | rfl | rfl <;> first | rfl | exact absurd k (by decide)
theorem kz_cipher {x : Nat} (h : x ∈ ([0, 1, 2] : List Nat)) (k : K_L_cipher x = 0) : x = 0 := by
  simp only [List.mem_cons, List.not_mem_nil, or_false] at h
  rcases h with rfl | rfl | rfl <;> first | rfl | exact absurd k (by decide)
theorem kz_version {x : Nat} (h : x ∈ ([0, 1, 2] : List Nat)) (k : K_L_version x = 0) : x = 0 := by
  simp only [List.mem_cons, List.not_mem_nil, or_false] at h
  rcases h with rfl | rfl | rfl <;> first | rfl | exact absurd k (by decide)
theorem kz_writes {x : Nat} (h : x ∈ ([0, 1, 2] : List Nat)) (k : K_L_writes x = 0) : x = 0 := by
  simp only [List.mem_cons, List.not_mem_nil, or_false] at h
  rcases h with rfl | rfl | rfl <;> first | rfl | exact absurd k (by decide)
theorem kz_mark {x : Nat} (h : x ∈ ([0, 1] : List Nat)) (k : K_L_mark x = 0) : x = 0 := by
  simp only [List.mem_cons, List.not_mem_nil, or_false] at h
  rcases h with rfl | rfl <;> first | rfl | exact absurd k (by decide)
theorem kz_spoil {x : Nat} (h : x ∈ ([0, 1, 2] : List Nat)) (k : K_L_spoil x = 0) : x = 0 := by
  simp only [List.mem_cons, List.not_mem_nil, or_false] at h
  rcases h with rfl | rfl | rfl <;> first | rfl | exact absurd k (by decide)
theorem kz_status {x : Nat} (h : x ∈ ([0, 1] : List Nat)) (k : K_L_status x = 0) : x = 0 := by
  simp only [List.mem_cons, List.not_mem_nil, or_false] at h
  rcases h with rfl | rfl <;> first | rfl | exact absurd k (by decide)
theorem kz_throwAway {x : Nat} (h : x ∈ ([0, 1, 3, 4] : List Nat)) (k : K_L_throwAway x = 0) : x = 0 := by
  simp only [List.mem_cons, List.not_mem_nil, or_false] at h
  rcases h with rfl | rfl | rfl | rfl <;> first | rfl | exact absurd k (by decide)
theorem kz_parts {x : Nat} (h : x ∈ ([0, 1] : List Nat)) (k : K_L_parts x = 0) : x = 0 := by
  simp only [List.mem_cons, List.not_mem_nil, or_false] at h
  rcases h with rfl | rfl <;> first | rfl | exact absurd k (by decide)
theorem kz_tell {x : Nat} (h : x ∈ ([0, 1, 2, 3, 4] : List Nat)) (k : K_L_tell x = 0) : x = 0 := by
  simp only [List.mem_cons, List.not_mem_nil, or_false] at h
  rcases h with rfl | rfl | rfl | rfl | rfl <;> first | rfl | exact absurd k (by decide)
theorem kz_ask {x : Nat} (h : x ∈ ([0, 1, 2, 4] : List Nat)) (k : K_L_ask x = 0) : x = 0 := by
  simp only [List.mem_cons, List.not_mem_nil, or_false] at h
  rcases h with rfl | rfl | rfl | rfl <;> first | rfl | exact absurd k (by decide)
theorem kz_foundAt {x : Nat} (h : x ∈ ([0, 5] : List Nat)) (k : K_L_foundAt x = 0) : x = 0 := by
  simp only [List.mem_cons, List.not_mem_nil, or_false] at h
  rcases h with rfl | rfl <;> first | rfl | exact absurd k (by decide)
theorem kz_shown {x : Nat} (h : x ∈ ([0, 2] : List Nat)) (k : K_L_shown x = 0) : x = 0 := by
  simp only [List.mem_cons, List.not_mem_nil, or_false] at h
  rcases h with rfl | rfl <;> first | rfl | exact absurd k (by decide)
theorem kz_leaf {x : Nat} (h : x ∈ ([0, 5] : List Nat)) (k : K_L_leaf x = 0) : x = 0 := by
  simp only [List.mem_cons, List.not_mem_nil, or_false] at h
  rcases h with rfl | rfl <;> first | rfl | exact absurd k (by decide)
theorem kz_root {x : Nat} (h : x ∈ ([0, 2] : List Nat)) (k : K_L_root x = 0) : x = 0 := by
  simp only [List.mem_cons, List.not_mem_nil, or_false] at h
  rcases h with rfl | rfl <;> first | rfl | exact absurd k (by decide)
theorem kz_proofLength {x : Nat} (h : x ∈ ([0, 2, 5] : List Nat)) (k : K_L_proofLength x = 0) : x = 0 := by
  simp only [List.mem_cons, List.not_mem_nil, or_false] at h
  rcases h with rfl | rfl | rfl <;> first | rfl | exact absurd k (by decide)
theorem kz_proofAt {x : Nat} (h : x ∈ ([0, 2, 5] : List Nat)) (k : K_L_proofAt x = 0) : x = 0 := by
  simp only [List.mem_cons, List.not_mem_nil, or_false] at h
  rcases h with rfl | rfl | rfl <;> first | rfl | exact absurd k (by decide)
theorem kz_prefixLength {x : Nat} (h : x ∈ ([0, 2] : List Nat)) (k : K_L_prefixLength x = 0) : x = 0 := by
  simp only [List.mem_cons, List.not_mem_nil, or_false] at h
  rcases h with rfl | rfl <;> first | rfl | exact absurd k (by decide)
theorem kz_prefixAt {x : Nat} (h : x ∈ ([0, 2, 5] : List Nat)) (k : K_L_prefixAt x = 0) : x = 0 := by
  simp only [List.mem_cons, List.not_mem_nil, or_false] at h
  rcases h with rfl | rfl | rfl <;> first | rfl | exact absurd k (by decide)
theorem kz_forget {x : Nat} (h : x ∈ ([0, 2] : List Nat)) (k : K_L_forget x = 0) : x = 0 := by
  simp only [List.mem_cons, List.not_mem_nil, or_false] at h
  rcases h with rfl | rfl <;> first | rfl | exact absurd k (by decide)
theorem kz_show {x : Nat} (h : x ∈ ([0, 1, 2] : List Nat)) (k : K_L_show x = 0) : x = 0 := by
  simp only [List.mem_cons, List.not_mem_nil, or_false] at h
  rcases h with rfl | rfl | rfl <;> first | rfl | exact absurd k (by decide)
theorem kz_meet {x : Nat} (h : x ∈ ([0, 1, 2] : List Nat)) (k : K_L_meet x = 0) : x = 0 := by
  simp only [List.mem_cons, List.not_mem_nil, or_false] at h
  rcases h with rfl | rfl | rfl <;> first | rfl | exact absurd k (by decide)
theorem kz_head {x : Nat} (h : x ∈ ([0, 1] : List Nat)) (k : K_L_head x = 0) : x = 0 := by
  simp only [List.mem_cons, List.not_mem_nil, or_false] at h
  rcases h with rfl | rfl <;> first | rfl | exact absurd k (by decide)
theorem kz_alarms {x : Nat} (h : x ∈ ([0, 1] : List Nat)) (k : K_L_alarms x = 0) : x = 0 := by
  simp only [List.mem_cons, List.not_mem_nil, or_false] at h
  rcases h with rfl | rfl <;> first | rfl | exact absurd k (by decide)
theorem kz_split {x : Nat} (h : x ∈ ([0, 1, 2] : List Nat)) (k : K_L_split x = 0) : x = 0 := by
  simp only [List.mem_cons, List.not_mem_nil, or_false] at h
  rcases h with rfl | rfl | rfl <;> first | rfl | exact absurd k (by decide)
theorem kz_share {x : Nat} (h : x ∈ ([0, 1, 3, 5] : List Nat)) (k : K_L_share x = 0) : x = 0 := by
  simp only [List.mem_cons, List.not_mem_nil, or_false] at h
  rcases h with rfl | rfl | rfl | rfl <;> first | rfl | exact absurd k (by decide)
theorem kz_collect {x : Nat} (h : x ∈ ([0, 2] : List Nat)) (k : K_L_collect x = 0) : x = 0 := by
  simp only [List.mem_cons, List.not_mem_nil, or_false] at h
  rcases h with rfl | rfl <;> first | rfl | exact absurd k (by decide)
theorem kz_recovered {x : Nat} (h : x ∈ ([0, 3] : List Nat)) (k : K_L_recovered x = 0) : x = 0 := by
  simp only [List.mem_cons, List.not_mem_nil, or_false] at h
  rcases h with rfl | rfl <;> first | rfl | exact absurd k (by decide)
theorem kz_goAway {x : Nat} (h : x ∈ ([0, 1, 3] : List Nat)) (k : K_L_goAway x = 0) : x = 0 := by
  simp only [List.mem_cons, List.not_mem_nil, or_false] at h
  rcases h with rfl | rfl | rfl <;> first | rfl | exact absurd k (by decide)
theorem kz_draft {x : Nat} (h : x ∈ ([0, 1, 2, 3] : List Nat)) (k : K_L_draft x = 0) : x = 0 := by
  simp only [List.mem_cons, List.not_mem_nil, or_false] at h
  rcases h with rfl | rfl | rfl | rfl <;> first | rfl | exact absurd k (by decide)
theorem kz_comeBack {x : Nat} (h : x ∈ ([0, 1, 3] : List Nat)) (k : K_L_comeBack x = 0) : x = 0 := by
  simp only [List.mem_cons, List.not_mem_nil, or_false] at h
  rcases h with rfl | rfl | rfl <;> first | rfl | exact absurd k (by decide)
theorem kz_conflictAt {x : Nat} (h : x ∈ ([0, 5] : List Nat)) (k : K_L_conflictAt x = 0) : x = 0 := by
  simp only [List.mem_cons, List.not_mem_nil, or_false] at h
  rcases h with rfl | rfl <;> first | rfl | exact absurd k (by decide)
theorem kz_load {x : Nat} (h : x ∈ ([0, 1] : List Nat)) (k : K_L_load x = 0) : x = 0 := by
  simp only [List.mem_cons, List.not_mem_nil, or_false] at h
  rcases h with rfl | rfl <;> first | rfl | exact absurd k (by decide)
theorem kz_loadBits {x : Nat} (h : x ∈ ([0, 1] : List Nat)) (k : K_L_loadBits x = 0) : x = 0 := by
  simp only [List.mem_cons, List.not_mem_nil, or_false] at h
  rcases h with rfl | rfl <;> first | rfl | exact absurd k (by decide)
theorem kz_meanTold {x : Nat} (h : x ∈ ([0, 6] : List Nat)) (k : K_L_meanTold x = 0) : x = 0 := by
  simp only [List.mem_cons, List.not_mem_nil, or_false] at h
  rcases h with rfl | rfl <;> first | rfl | exact absurd k (by decide)
theorem kz_meanToldBits {x : Nat} (h : x ∈ ([0, 6] : List Nat)) (k : K_L_meanToldBits x = 0) : x = 0 := by
  simp only [List.mem_cons, List.not_mem_nil, or_false] at h
  rcases h with rfl | rfl <;> first | rfl | exact absurd k (by decide)
