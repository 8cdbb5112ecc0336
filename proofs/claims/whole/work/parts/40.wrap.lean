theorem E_X_X11_addUser {g : vS} {x : Int32} : X_X11_addUser g x ∈ ([0, 2, 3] : List Nat) := by
  unfold X_X11_addUser
  (repeat' split) <;> first | exact (by decide : (0 : Nat) ∈ ([0, 2, 3] : List Nat)) | exact (by decide : (2 : Nat) ∈ ([0, 2, 3] : List Nat)) | exact (by decide : (3 : Nat) ∈ ([0, 2, 3] : List Nat))
theorem E_X_X11_needUser {g : vS} {u : Int32} : X_X11_needUser g u ∈ ([0, 1] : List Nat) := by
  unfold X_X11_needUser
  (repeat' split) <;> first | exact (by decide : (0 : Nat) ∈ ([0, 1] : List Nat)) | exact (by decide : (1 : Nat) ∈ ([0, 1] : List Nat))
theorem E_X_X11_addGroup {g : vS} {u : Int32} {x : Int32} : X_X11_addGroup g u x ∈ ([0, 1, 2, 3] : List Nat) := by
  unfold X_X11_addGroup
  (repeat' split) <;> first | exact (by decide : (0 : Nat) ∈ ([0, 1, 2, 3] : List Nat)) | exact (by decide : (1 : Nat) ∈ ([0, 1, 2, 3] : List Nat)) | exact (by decide : (2 : Nat) ∈ ([0, 1, 2, 3] : List Nat)) | exact (by decide : (3 : Nat) ∈ ([0, 1, 2, 3] : List Nat)) | exact (by decide : ∀ z ∈ ([0, 1] : List Nat), z ∈ ([0, 1, 2, 3] : List Nat)) _ (E_X_X11_needUser ..)
theorem E_X_X11_needGroup {g : vS} {u : Int32} : X_X11_needGroup g u ∈ ([0, 1] : List Nat) := by
  unfold X_X11_needGroup
  (repeat' split) <;> first | exact (by decide : (0 : Nat) ∈ ([0, 1] : List Nat)) | exact (by decide : (1 : Nat) ∈ ([0, 1] : List Nat))
theorem E_X_X11_needRoomForComingAndGoing {g : vS} : X_X11_needRoomForComingAndGoing g ∈ ([0, 3] : List Nat) := by
  unfold X_X11_needRoomForComingAndGoing
  (repeat' split) <;> first | exact (by decide : (0 : Nat) ∈ ([0, 3] : List Nat)) | exact (by decide : (3 : Nat) ∈ ([0, 3] : List Nat))
theorem E_X_X11_join {g : vS} {a : Int32} {u : Int32} : X_X11_join g a u ∈ ([0, 1, 3] : List Nat) := by
  unfold X_X11_join
  (repeat' split) <;> first | exact (by decide : (0 : Nat) ∈ ([0, 1, 3] : List Nat)) | exact (by decide : (1 : Nat) ∈ ([0, 1, 3] : List Nat)) | exact (by decide : (3 : Nat) ∈ ([0, 1, 3] : List Nat)) | exact (by decide : ∀ z ∈ ([0, 1] : List Nat), z ∈ ([0, 1, 3] : List Nat)) _ (E_X_X11_needGroup ..) | exact (by decide : ∀ z ∈ ([0, 1] : List Nat), z ∈ ([0, 1, 3] : List Nat)) _ (E_X_X11_needUser ..) | exact (by decide : ∀ z ∈ ([0, 3] : List Nat), z ∈ ([0, 1, 3] : List Nat)) _ (E_X_X11_needRoomForComingAndGoing ..)
theorem E_X_X11_leave {g : vS} {a : Int32} {u : Int32} {zz : Int32} : X_X11_leave g a u zz ∈ ([0, 1, 2, 3] : List Nat) := by
  unfold X_X11_leave
  (repeat' split) <;> first | exact (by decide : (0 : Nat) ∈ ([0, 1, 2, 3] : List Nat)) | exact (by decide : (1 : Nat) ∈ ([0, 1, 2, 3] : List Nat)) | exact (by decide : (2 : Nat) ∈ ([0, 1, 2, 3] : List Nat)) | exact (by decide : (3 : Nat) ∈ ([0, 1, 2, 3] : List Nat)) | exact (by decide : ∀ z ∈ ([0, 1] : List Nat), z ∈ ([0, 1, 2, 3] : List Nat)) _ (E_X_X11_needGroup ..) | exact (by decide : ∀ z ∈ ([0, 3] : List Nat), z ∈ ([0, 1, 2, 3] : List Nat)) _ (E_X_X11_needRoomForComingAndGoing ..)
theorem E_X_X11_isMember {g : vS} {a : Int32} {u : Int32} : X_X11_isMember g a u ∈ ([0, 1] : List Nat) := by
  unfold X_X11_isMember
  (repeat' split) <;> first | exact (by decide : (0 : Nat) ∈ ([0, 1] : List Nat)) | exact (by decide : (1 : Nat) ∈ ([0, 1] : List Nat)) | exact (by decide : ∀ z ∈ ([0, 1] : List Nat), z ∈ ([0, 1] : List Nat)) _ (E_X_X11_needGroup ..) | exact (by decide : ∀ z ∈ ([0, 1] : List Nat), z ∈ ([0, 1] : List Nat)) _ (E_X_X11_needUser ..)
theorem E_X_X11_epoch {g : vS} {a : Int32} : X_X11_epoch g a ∈ ([0, 1] : List Nat) := by
  unfold X_X11_epoch
  (repeat' split) <;> first | exact (by decide : (0 : Nat) ∈ ([0, 1] : List Nat)) | exact (by decide : (1 : Nat) ∈ ([0, 1] : List Nat)) | exact (by decide : ∀ z ∈ ([0, 1] : List Nat), z ∈ ([0, 1] : List Nat)) _ (E_X_X11_needGroup ..)
theorem E_X_X11_known {g : vS} {a : Int32} {u : Int32} : X_X11_known g a u ∈ ([0, 1] : List Nat) := by
  unfold X_X11_known
  (repeat' split) <;> first | exact (by decide : (0 : Nat) ∈ ([0, 1] : List Nat)) | exact (by decide : (1 : Nat) ∈ ([0, 1] : List Nat)) | exact (by decide : ∀ z ∈ ([0, 1] : List Nat), z ∈ ([0, 1] : List Nat)) _ (E_X_X11_needGroup ..) | exact (by decide : ∀ z ∈ ([0, 1] : List Nat), z ∈ ([0, 1] : List Nat)) _ (E_X_X11_needUser ..)
theorem E_X_X11_needMember {g : vS} {gi : Nat} {u : Int32} : X_X11_needMember g gi u ∈ ([0, 4] : List Nat) := by
  unfold X_X11_needMember
  (repeat' split) <;> first | exact (by decide : (0 : Nat) ∈ ([0, 4] : List Nat)) | exact (by decide : (4 : Nat) ∈ ([0, 4] : List Nat))
theorem E_X_X11_addFile {g : vS} {a : Int32} {u : Int32} : X_X11_addFile g a u ∈ ([0, 1, 3, 4] : List Nat) := by
  unfold X_X11_addFile
  (repeat' split) <;> first | exact (by decide : (0 : Nat) ∈ ([0, 1, 3, 4] : List Nat)) | exact (by decide : (1 : Nat) ∈ ([0, 1, 3, 4] : List Nat)) | exact (by decide : (3 : Nat) ∈ ([0, 1, 3, 4] : List Nat)) | exact (by decide : (4 : Nat) ∈ ([0, 1, 3, 4] : List Nat)) | exact (by decide : ∀ z ∈ ([0, 1] : List Nat), z ∈ ([0, 1, 3, 4] : List Nat)) _ (E_X_X11_needGroup ..) | exact (by decide : ∀ z ∈ ([0, 1] : List Nat), z ∈ ([0, 1, 3, 4] : List Nat)) _ (E_X_X11_needUser ..) | exact (by decide : ∀ z ∈ ([0, 4] : List Nat), z ∈ ([0, 1, 3, 4] : List Nat)) _ (E_X_X11_needMember ..)
theorem E_X_X11_needFile {g : vS} {u : Int32} : X_X11_needFile g u ∈ ([0, 1] : List Nat) := by
  unfold X_X11_needFile
  (repeat' split) <;> first | exact (by decide : (0 : Nat) ∈ ([0, 1] : List Nat)) | exact (by decide : (1 : Nat) ∈ ([0, 1] : List Nat))
theorem E_X_X11_needPartNumber {g : vS} {p : Int32} : X_X11_needPartNumber g p ∈ ([0, 2] : List Nat) := by
  unfold X_X11_needPartNumber
  (repeat' split) <;> first | exact (by decide : (0 : Nat) ∈ ([0, 2] : List Nat)) | exact (by decide : (2 : Nat) ∈ ([0, 2] : List Nat))
theorem E_X_X11_write {g : vS} {u : Int32} {a : Int32} {x : Int32} {y : Int32} : X_X11_write g u a x y ∈ ([0, 1, 2, 3, 4] : List Nat) := by
  unfold X_X11_write
  (repeat' split) <;> first | exact (by decide : (0 : Nat) ∈ ([0, 1, 2, 3, 4] : List Nat)) | exact (by decide : (1 : Nat) ∈ ([0, 1, 2, 3, 4] : List Nat)) | exact (by decide : (2 : Nat) ∈ ([0, 1, 2, 3, 4] : List Nat)) | exact (by decide : (3 : Nat) ∈ ([0, 1, 2, 3, 4] : List Nat)) | exact (by decide : (4 : Nat) ∈ ([0, 1, 2, 3, 4] : List Nat)) | exact (by decide : ∀ z ∈ ([0, 1] : List Nat), z ∈ ([0, 1, 2, 3, 4] : List Nat)) _ (E_X_X11_needUser ..) | exact (by decide : ∀ z ∈ ([0, 1] : List Nat), z ∈ ([0, 1, 2, 3, 4] : List Nat)) _ (E_X_X11_needFile ..) | exact (by decide : ∀ z ∈ ([0, 2] : List Nat), z ∈ ([0, 1, 2, 3, 4] : List Nat)) _ (E_X_X11_needPartNumber ..) | exact (by decide : ∀ z ∈ ([0, 4] : List Nat), z ∈ ([0, 1, 2, 3, 4] : List Nat)) _ (E_X_X11_needMember ..)
theorem E_X_X11_needPart {g : vS} {a : Int32} {x : Int32} : X_X11_needPart g a x ∈ ([0, 1, 2] : List Nat) := by
  unfold X_X11_needPart
  (repeat' split) <;> first | exact (by decide : (0 : Nat) ∈ ([0, 1, 2] : List Nat)) | exact (by decide : (1 : Nat) ∈ ([0, 1, 2] : List Nat)) | exact (by decide : (2 : Nat) ∈ ([0, 1, 2] : List Nat)) | exact (by decide : ∀ z ∈ ([0, 1] : List Nat), z ∈ ([0, 1, 2] : List Nat)) _ (E_X_X11_needFile ..) | exact (by decide : ∀ z ∈ ([0, 2] : List Nat), z ∈ ([0, 1, 2] : List Nat)) _ (E_X_X11_needPartNumber ..)
theorem E_X_X11_read {g : vS} {u : Int32} {a : Int32} {x : Int32} : X_X11_read g u a x ∈ ([0, 1, 2, 3, 4] : List Nat) := by
  unfold X_X11_read
  (repeat' split) <;> first | exact (by decide : (0 : Nat) ∈ ([0, 1, 2, 3, 4] : List Nat)) | exact (by decide : (1 : Nat) ∈ ([0, 1, 2, 3, 4] : List Nat)) | exact (by decide : (2 : Nat) ∈ ([0, 1, 2, 3, 4] : List Nat)) | exact (by decide : (3 : Nat) ∈ ([0, 1, 2, 3, 4] : List Nat)) | exact (by decide : (4 : Nat) ∈ ([0, 1, 2, 3, 4] : List Nat)) | exact (by decide : ∀ z ∈ ([0, 1] : List Nat), z ∈ ([0, 1, 2, 3, 4] : List Nat)) _ (E_X_X11_needUser ..) | exact (by decide : ∀ z ∈ ([0, 1] : List Nat), z ∈ ([0, 1, 2, 3, 4] : List Nat)) _ (E_X_X11_needFile ..) | exact (by decide : ∀ z ∈ ([0, 1, 2] : List Nat), z ∈ ([0, 1, 2, 3, 4] : List Nat)) _ (E_X_X11_needPart ..)
theorem E_X_X11_canRead {g : vS} {u : Int32} {a : Int32} {x : Int32} : X_X11_canRead g u a x ∈ ([0, 1, 2] : List Nat) := by
  unfold X_X11_canRead
  (repeat' split) <;> first | exact (by decide : (0 : Nat) ∈ ([0, 1, 2] : List Nat)) | exact (by decide : (1 : Nat) ∈ ([0, 1, 2] : List Nat)) | exact (by decide : (2 : Nat) ∈ ([0, 1, 2] : List Nat)) | exact (by decide : ∀ z ∈ ([0, 1] : List Nat), z ∈ ([0, 1, 2] : List Nat)) _ (E_X_X11_needUser ..) | exact (by decide : ∀ z ∈ ([0, 1] : List Nat), z ∈ ([0, 1, 2] : List Nat)) _ (E_X_X11_needFile ..) | exact (by decide : ∀ z ∈ ([0, 1, 2] : List Nat), z ∈ ([0, 1, 2] : List Nat)) _ (E_X_X11_needPart ..)
theorem E_X_X11_canReadByGrants {g : vS} {u : Int32} {a : Int32} {x : Int32} : X_X11_canReadByGrants g u a x ∈ ([0, 1, 2] : List Nat) := by
  unfold X_X11_canReadByGrants
  (repeat' split) <;> first | exact (by decide : (0 : Nat) ∈ ([0, 1, 2] : List Nat)) | exact (by decide : (1 : Nat) ∈ ([0, 1, 2] : List Nat)) | exact (by decide : (2 : Nat) ∈ ([0, 1, 2] : List Nat)) | exact (by decide : ∀ z ∈ ([0, 1] : List Nat), z ∈ ([0, 1, 2] : List Nat)) _ (E_X_X11_needUser ..) | exact (by decide : ∀ z ∈ ([0, 1] : List Nat), z ∈ ([0, 1, 2] : List Nat)) _ (E_X_X11_needFile ..) | exact (by decide : ∀ z ∈ ([0, 1, 2] : List Nat), z ∈ ([0, 1, 2] : List Nat)) _ (E_X_X11_needPart ..)
theorem E_X_X11_cipher {g : vS} {a : Int32} {x : Int32} : X_X11_cipher g a x ∈ ([0, 1, 2] : List Nat) := by
  unfold X_X11_cipher
  (repeat' split) <;> first | exact (by decide : (0 : Nat) ∈ ([0, 1, 2] : List Nat)) | exact (by decide : (1 : Nat) ∈ ([0, 1, 2] : List Nat)) | exact (by decide : (2 : Nat) ∈ ([0, 1, 2] : List Nat)) | exact (by decide : ∀ z ∈ ([0, 1, 2] : List Nat), z ∈ ([0, 1, 2] : List Nat)) _ (E_X_X11_needPart ..)
theorem E_X_X11_version {g : vS} {a : Int32} {x : Int32} : X_X11_version g a x ∈ ([0, 1, 2] : List Nat) := by
  unfold X_X11_version
  (repeat' split) <;> first | exact (by decide : (0 : Nat) ∈ ([0, 1, 2] : List Nat)) | exact (by decide : (1 : Nat) ∈ ([0, 1, 2] : List Nat)) | exact (by decide : (2 : Nat) ∈ ([0, 1, 2] : List Nat)) | exact (by decide : ∀ z ∈ ([0, 1, 2] : List Nat), z ∈ ([0, 1, 2] : List Nat)) _ (E_X_X11_needPart ..)
theorem E_X_X11_writes {g : vS} {a : Int32} {x : Int32} : X_X11_writes g a x ∈ ([0, 1, 2] : List Nat) := by
  unfold X_X11_writes
  (repeat' split) <;> first | exact (by decide : (0 : Nat) ∈ ([0, 1, 2] : List Nat)) | exact (by decide : (1 : Nat) ∈ ([0, 1, 2] : List Nat)) | exact (by decide : (2 : Nat) ∈ ([0, 1, 2] : List Nat)) | exact (by decide : ∀ z ∈ ([0, 1] : List Nat), z ∈ ([0, 1, 2] : List Nat)) _ (E_X_X11_needFile ..) | exact (by decide : ∀ z ∈ ([0, 2] : List Nat), z ∈ ([0, 1, 2] : List Nat)) _ (E_X_X11_needPartNumber ..)
theorem E_X_X11_mark {g : vS} {a : Int32} : X_X11_mark g a ∈ ([0, 1] : List Nat) := by
  unfold X_X11_mark
  (repeat' split) <;> first | exact (by decide : (0 : Nat) ∈ ([0, 1] : List Nat)) | exact (by decide : (1 : Nat) ∈ ([0, 1] : List Nat)) | exact (by decide : ∀ z ∈ ([0, 1] : List Nat), z ∈ ([0, 1] : List Nat)) _ (E_X_X11_needFile ..)
theorem E_X_X11_spoil {g : vS} {a : Int32} {x : Int32} {b : Int32} : X_X11_spoil g a x b ∈ ([0, 1, 2] : List Nat) := by
  unfold X_X11_spoil
  (repeat' split) <;> first | exact (by decide : (0 : Nat) ∈ ([0, 1, 2] : List Nat)) | exact (by decide : (1 : Nat) ∈ ([0, 1, 2] : List Nat)) | exact (by decide : (2 : Nat) ∈ ([0, 1, 2] : List Nat)) | exact (by decide : ∀ z ∈ ([0, 1, 2] : List Nat), z ∈ ([0, 1, 2] : List Nat)) _ (E_X_X11_needPart ..)
theorem E_X_X11_status {g : vS} {a : Int32} : X_X11_status g a ∈ ([0, 1] : List Nat) := by
  unfold X_X11_status
  (repeat' split) <;> first | exact (by decide : (0 : Nat) ∈ ([0, 1] : List Nat)) | exact (by decide : (1 : Nat) ∈ ([0, 1] : List Nat)) | exact (by decide : ∀ z ∈ ([0, 1] : List Nat), z ∈ ([0, 1] : List Nat)) _ (E_X_X11_needFile ..)
theorem E_X_X11_throwAway {g : vS} {u : Int32} {a : Int32} : X_X11_throwAway g u a ∈ ([0, 1, 3, 4] : List Nat) := by
  unfold X_X11_throwAway
  (repeat' split) <;> first | exact (by decide : (0 : Nat) ∈ ([0, 1, 3, 4] : List Nat)) | exact (by decide : (1 : Nat) ∈ ([0, 1, 3, 4] : List Nat)) | exact (by decide : (3 : Nat) ∈ ([0, 1, 3, 4] : List Nat)) | exact (by decide : (4 : Nat) ∈ ([0, 1, 3, 4] : List Nat)) | exact (by decide : ∀ z ∈ ([0, 1] : List Nat), z ∈ ([0, 1, 3, 4] : List Nat)) _ (E_X_X11_needUser ..) | exact (by decide : ∀ z ∈ ([0, 1] : List Nat), z ∈ ([0, 1, 3, 4] : List Nat)) _ (E_X_X11_needFile ..)
theorem E_X_X11_parts {g : vS} {a : Int32} : X_X11_parts g a ∈ ([0, 1] : List Nat) := by
  unfold X_X11_parts
  (repeat' split) <;> first | exact (by decide : (0 : Nat) ∈ ([0, 1] : List Nat)) | exact (by decide : (1 : Nat) ∈ ([0, 1] : List Nat)) | exact (by decide : ∀ z ∈ ([0, 1] : List Nat), z ∈ ([0, 1] : List Nat)) _ (E_X_X11_needGroup ..)
theorem E_X_X11_needWord {g : vS} {x : Int32} : X_X11_needWord g x ∈ ([0, 2] : List Nat) := by
  unfold X_X11_needWord
  (repeat' split) <;> first | exact (by decide : (0 : Nat) ∈ ([0, 2] : List Nat)) | exact (by decide : (2 : Nat) ∈ ([0, 2] : List Nat))
theorem E_X_X11_tell {g : vS} {u : Int32} {a : Int32} {x : Int32} : X_X11_tell g u a x ∈ ([0, 1, 2, 3, 4] : List Nat) := by
  unfold X_X11_tell
  (repeat' split) <;> first | exact (by decide : (0 : Nat) ∈ ([0, 1, 2, 3, 4] : List Nat)) | exact (by decide : (1 : Nat) ∈ ([0, 1, 2, 3, 4] : List Nat)) | exact (by decide : (2 : Nat) ∈ ([0, 1, 2, 3, 4] : List Nat)) | exact (by decide : (3 : Nat) ∈ ([0, 1, 2, 3, 4] : List Nat)) | exact (by decide : (4 : Nat) ∈ ([0, 1, 2, 3, 4] : List Nat)) | exact (by decide : ∀ z ∈ ([0, 1] : List Nat), z ∈ ([0, 1, 2, 3, 4] : List Nat)) _ (E_X_X11_needUser ..) | exact (by decide : ∀ z ∈ ([0, 1] : List Nat), z ∈ ([0, 1, 2, 3, 4] : List Nat)) _ (E_X_X11_needFile ..) | exact (by decide : ∀ z ∈ ([0, 2] : List Nat), z ∈ ([0, 1, 2, 3, 4] : List Nat)) _ (E_X_X11_needWord ..) | exact (by decide : ∀ z ∈ ([0, 4] : List Nat), z ∈ ([0, 1, 2, 3, 4] : List Nat)) _ (E_X_X11_needMember ..)
theorem E_XL_X11_ask_52 {g : vS} {u : Int32} {a : Int32} {x : Int32} : ∀ (a0 : Nat) (a1 : Nat) (a2 : vS), XL_X11_ask_52 g u a x a0 a1 a2 ∈ ([0] : List Nat) := by
  intro a0
  induction a0 with
  | zero => intro a1 a2; exact (by decide : (0 : Nat) ∈ ([0] : List Nat))
  | succ n ih =>
    intro a1 a2
    simp only [XL_X11_ask_52]
    (repeat' split) <;> first | exact (by decide : (0 : Nat) ∈ ([0] : List Nat)) | exact ih ..
theorem E_X_X11_ask {g : vS} {u : Int32} {a : Int32} {x : Int32} : X_X11_ask g u a x ∈ ([0, 1, 2, 4] : List Nat) := by
  unfold X_X11_ask
  rw [List.mem_singleton.mp (E_XL_X11_ask_52 _ _ _)]
  (repeat' split) <;> first | exact (by decide : (0 : Nat) ∈ ([0, 1, 2, 4] : List Nat)) | exact (by decide : (1 : Nat) ∈ ([0, 1, 2, 4] : List Nat)) | exact (by decide : (2 : Nat) ∈ ([0, 1, 2, 4] : List Nat)) | exact (by decide : (4 : Nat) ∈ ([0, 1, 2, 4] : List Nat)) | exact (by decide : ∀ z ∈ ([0, 1] : List Nat), z ∈ ([0, 1, 2, 4] : List Nat)) _ (E_X_X11_needUser ..) | exact (by decide : ∀ z ∈ ([0, 1] : List Nat), z ∈ ([0, 1, 2, 4] : List Nat)) _ (E_X_X11_needGroup ..) | exact (by decide : ∀ z ∈ ([0, 2] : List Nat), z ∈ ([0, 1, 2, 4] : List Nat)) _ (E_X_X11_needWord ..)
theorem E_X_X11_foundAt {g : vS} {x : Int32} : X_X11_foundAt g x ∈ ([0, 5] : List Nat) := by
  unfold X_X11_foundAt
  (repeat' split) <;> first | exact (by decide : (0 : Nat) ∈ ([0, 5] : List Nat)) | exact (by decide : (5 : Nat) ∈ ([0, 5] : List Nat))
theorem E_X_X11_shown {g : vS} {x : Int32} : X_X11_shown g x ∈ ([0, 2] : List Nat) := by
  unfold X_X11_shown
  (repeat' split) <;> first | exact (by decide : (0 : Nat) ∈ ([0, 2] : List Nat)) | exact (by decide : (2 : Nat) ∈ ([0, 2] : List Nat))
theorem E_X_X11_leaf {g : vS} {x : Int32} : X_X11_leaf g x ∈ ([0, 5] : List Nat) := by
  unfold X_X11_leaf
  (repeat' split) <;> first | exact (by decide : (0 : Nat) ∈ ([0, 5] : List Nat)) | exact (by decide : (5 : Nat) ∈ ([0, 5] : List Nat))
theorem E_X_X11_needLeaves {g : vS} {n : Int32} : X_X11_needLeaves g n ∈ ([0, 2] : List Nat) := by
  unfold X_X11_needLeaves
  (repeat' split) <;> first | exact (by decide : (0 : Nat) ∈ ([0, 2] : List Nat)) | exact (by decide : (2 : Nat) ∈ ([0, 2] : List Nat))
theorem E_X_X11_root {g : vS} {nl : Int32} : X_X11_root g nl ∈ ([0, 2] : List Nat) := by
  unfold X_X11_root
  (repeat' split) <;> first | exact (by decide : (0 : Nat) ∈ ([0, 2] : List Nat)) | exact (by decide : (2 : Nat) ∈ ([0, 2] : List Nat)) | exact (by decide : ∀ z ∈ ([0, 2] : List Nat), z ∈ ([0, 2] : List Nat)) _ (E_X_X11_needLeaves ..)
theorem E_X_X11_needLeafAmong {g : vS} {n : Int32} {x : Int32} : X_X11_needLeafAmong g n x ∈ ([0, 2, 5] : List Nat) := by
  unfold X_X11_needLeafAmong
  (repeat' split) <;> first | exact (by decide : (0 : Nat) ∈ ([0, 2, 5] : List Nat)) | exact (by decide : (2 : Nat) ∈ ([0, 2, 5] : List Nat)) | exact (by decide : (5 : Nat) ∈ ([0, 2, 5] : List Nat)) | exact (by decide : ∀ z ∈ ([0, 2] : List Nat), z ∈ ([0, 2, 5] : List Nat)) _ (E_X_X11_needLeaves ..)
theorem E_X_X11_proofLength {g : vS} {nl : Int32} {x : Int32} : X_X11_proofLength g nl x ∈ ([0, 2, 5] : List Nat) := by
  unfold X_X11_proofLength
  (repeat' split) <;> first | exact (by decide : (0 : Nat) ∈ ([0, 2, 5] : List Nat)) | exact (by decide : (2 : Nat) ∈ ([0, 2, 5] : List Nat)) | exact (by decide : (5 : Nat) ∈ ([0, 2, 5] : List Nat)) | exact (by decide : ∀ z ∈ ([0, 2, 5] : List Nat), z ∈ ([0, 2, 5] : List Nat)) _ (E_X_X11_needLeafAmong ..)
theorem E_X_X11_proofNumber {g : vS} {l : Int32} {x : Int32} : X_X11_proofNumber g l x ∈ ([0, 5] : List Nat) := by
  unfold X_X11_proofNumber
  (repeat' split) <;> first | exact (by decide : (0 : Nat) ∈ ([0, 5] : List Nat)) | exact (by decide : (5 : Nat) ∈ ([0, 5] : List Nat))
theorem E_X_X11_proofAt {g : vS} {nl : Int32} {x : Int32} {y : Int32} : X_X11_proofAt g nl x y ∈ ([0, 2, 5] : List Nat) := by
  unfold X_X11_proofAt
  (repeat' split) <;> first | exact (by decide : (0 : Nat) ∈ ([0, 2, 5] : List Nat)) | exact (by decide : (2 : Nat) ∈ ([0, 2, 5] : List Nat)) | exact (by decide : (5 : Nat) ∈ ([0, 2, 5] : List Nat)) | exact (by decide : ∀ z ∈ ([0, 2, 5] : List Nat), z ∈ ([0, 2, 5] : List Nat)) _ (E_X_X11_needLeafAmong ..) | exact (by decide : ∀ z ∈ ([0, 5] : List Nat), z ∈ ([0, 2, 5] : List Nat)) _ (E_X_X11_proofNumber ..)
theorem E_X_X11_needPrefix {g : vS} {m : Int32} {n : Int32} : X_X11_needPrefix g m n ∈ ([0, 2] : List Nat) := by
  unfold X_X11_needPrefix
  (repeat' split) <;> first | exact (by decide : (0 : Nat) ∈ ([0, 2] : List Nat)) | exact (by decide : (2 : Nat) ∈ ([0, 2] : List Nat)) | exact (by decide : ∀ z ∈ ([0, 2] : List Nat), z ∈ ([0, 2] : List Nat)) _ (E_X_X11_needLeaves ..)
theorem E_X_X11_prefixLength {g : vS} {m : Int32} {nl : Int32} : X_X11_prefixLength g m nl ∈ ([0, 2] : List Nat) := by
  unfold X_X11_prefixLength
  (repeat' split) <;> first | exact (by decide : (0 : Nat) ∈ ([0, 2] : List Nat)) | exact (by decide : (2 : Nat) ∈ ([0, 2] : List Nat)) | exact (by decide : ∀ z ∈ ([0, 2] : List Nat), z ∈ ([0, 2] : List Nat)) _ (E_X_X11_needPrefix ..)
theorem E_X_X11_prefixAt {g : vS} {m : Int32} {nl : Int32} {y : Int32} : X_X11_prefixAt g m nl y ∈ ([0, 2, 5] : List Nat) := by
  unfold X_X11_prefixAt
  (repeat' split) <;> first | exact (by decide : (0 : Nat) ∈ ([0, 2, 5] : List Nat)) | exact (by decide : (2 : Nat) ∈ ([0, 2, 5] : List Nat)) | exact (by decide : (5 : Nat) ∈ ([0, 2, 5] : List Nat)) | exact (by decide : ∀ z ∈ ([0, 2] : List Nat), z ∈ ([0, 2, 5] : List Nat)) _ (E_X_X11_needPrefix ..) | exact (by decide : ∀ z ∈ ([0, 5] : List Nat), z ∈ ([0, 2, 5] : List Nat)) _ (E_X_X11_proofNumber ..)
theorem E_X_X11_forget {g : vS} {n : Int32} : X_X11_forget g n ∈ ([0, 2] : List Nat) := by
  unfold X_X11_forget
  (repeat' split) <;> first | exact (by decide : (0 : Nat) ∈ ([0, 2] : List Nat)) | exact (by decide : (2 : Nat) ∈ ([0, 2] : List Nat)) | exact (by decide : ∀ z ∈ ([0, 2] : List Nat), z ∈ ([0, 2] : List Nat)) _ (E_X_X11_needLeaves ..)
theorem E_X_X11_show {g : vS} {u : Int32} {l : Int32} : X_X11_show g u l ∈ ([0, 1, 2] : List Nat) := by
  unfold X_X11_show
  (repeat' split) <;> first | exact (by decide : (0 : Nat) ∈ ([0, 1, 2] : List Nat)) | exact (by decide : (1 : Nat) ∈ ([0, 1, 2] : List Nat)) | exact (by decide : (2 : Nat) ∈ ([0, 1, 2] : List Nat)) | exact (by decide : ∀ z ∈ ([0, 1] : List Nat), z ∈ ([0, 1, 2] : List Nat)) _ (E_X_X11_needUser ..) | exact (by decide : ∀ z ∈ ([0, 2] : List Nat), z ∈ ([0, 1, 2] : List Nat)) _ (E_X_X11_needLeaves ..)
theorem E_X_X11_meet {g : vS} {u : Int32} {x : Int32} : X_X11_meet g u x ∈ ([0, 1, 2] : List Nat) := by
  unfold X_X11_meet
  (repeat' split) <;> first | exact (by decide : (0 : Nat) ∈ ([0, 1, 2] : List Nat)) | exact (by decide : (1 : Nat) ∈ ([0, 1, 2] : List Nat)) | exact (by decide : (2 : Nat) ∈ ([0, 1, 2] : List Nat)) | exact (by decide : ∀ z ∈ ([0, 1] : List Nat), z ∈ ([0, 1, 2] : List Nat)) _ (E_X_X11_needUser ..)
theorem E_X_X11_head {g : vS} {a : Int32} : X_X11_head g a ∈ ([0, 1] : List Nat) := by
  unfold X_X11_head
  (repeat' split) <;> first | exact (by decide : (0 : Nat) ∈ ([0, 1] : List Nat)) | exact (by decide : (1 : Nat) ∈ ([0, 1] : List Nat)) | exact (by decide : ∀ z ∈ ([0, 1] : List Nat), z ∈ ([0, 1] : List Nat)) _ (E_X_X11_needUser ..)
theorem E_X_X11_alarms {g : vS} {a : Int32} : X_X11_alarms g a ∈ ([0, 1] : List Nat) := by
  unfold X_X11_alarms
  (repeat' split) <;> first | exact (by decide : (0 : Nat) ∈ ([0, 1] : List Nat)) | exact (by decide : (1 : Nat) ∈ ([0, 1] : List Nat)) | exact (by decide : ∀ z ∈ ([0, 1] : List Nat), z ∈ ([0, 1] : List Nat)) _ (E_X_X11_needUser ..)
theorem E_X_X11_split {g : vS} {a : Int32} {m : Int32} {n : Int32} : X_X11_split g a m n ∈ ([0, 1, 2] : List Nat) := by
  unfold X_X11_split
  (repeat' split) <;> first | exact (by decide : (0 : Nat) ∈ ([0, 1, 2] : List Nat)) | exact (by decide : (1 : Nat) ∈ ([0, 1, 2] : List Nat)) | exact (by decide : (2 : Nat) ∈ ([0, 1, 2] : List Nat)) | exact (by decide : ∀ z ∈ ([0, 1] : List Nat), z ∈ ([0, 1, 2] : List Nat)) _ (E_X_X11_needUser ..)
theorem E_X_X11_share {g : vS} {u : Int32} {x : Int32} : X_X11_share g u x ∈ ([0, 1, 3, 5] : List Nat) := by
  unfold X_X11_share
  (repeat' split) <;> first | exact (by decide : (0 : Nat) ∈ ([0, 1, 3, 5] : List Nat)) | exact (by decide : (1 : Nat) ∈ ([0, 1, 3, 5] : List Nat)) | exact (by decide : (3 : Nat) ∈ ([0, 1, 3, 5] : List Nat)) | exact (by decide : (5 : Nat) ∈ ([0, 1, 3, 5] : List Nat)) | exact (by decide : ∀ z ∈ ([0, 1] : List Nat), z ∈ ([0, 1, 3, 5] : List Nat)) _ (E_X_X11_needUser ..)
theorem E_X_X11_collect {g : vS} {x : Int32} {y : Int32} : X_X11_collect g x y ∈ ([0, 2] : List Nat) := by
  unfold X_X11_collect
  (repeat' split) <;> first | exact (by decide : (0 : Nat) ∈ ([0, 2] : List Nat)) | exact (by decide : (2 : Nat) ∈ ([0, 2] : List Nat))
theorem E_X_X11_recovered {g : vS} : X_X11_recovered g ∈ ([0, 3] : List Nat) := by
  unfold X_X11_recovered
  (repeat' split) <;> first | exact (by decide : (0 : Nat) ∈ ([0, 3] : List Nat)) | exact (by decide : (3 : Nat) ∈ ([0, 3] : List Nat))
theorem E_X_X11_goAway {g : vS} {u : Int32} : X_X11_goAway g u ∈ ([0, 1, 3] : List Nat) := by
  unfold X_X11_goAway
  (repeat' split) <;> first | exact (by decide : (0 : Nat) ∈ ([0, 1, 3] : List Nat)) | exact (by decide : (1 : Nat) ∈ ([0, 1, 3] : List Nat)) | exact (by decide : (3 : Nat) ∈ ([0, 1, 3] : List Nat)) | exact (by decide : ∀ z ∈ ([0, 1] : List Nat), z ∈ ([0, 1, 3] : List Nat)) _ (E_X_X11_needUser ..)
theorem E_X_X11_draft {g : vS} {u : Int32} {a : Int32} {x : Int32} {y : Int32} : X_X11_draft g u a x y ∈ ([0, 1, 2, 3] : List Nat) := by
  unfold X_X11_draft
  (repeat' split) <;> first | exact (by decide : (0 : Nat) ∈ ([0, 1, 2, 3] : List Nat)) | exact (by decide : (1 : Nat) ∈ ([0, 1, 2, 3] : List Nat)) | exact (by decide : (2 : Nat) ∈ ([0, 1, 2, 3] : List Nat)) | exact (by decide : (3 : Nat) ∈ ([0, 1, 2, 3] : List Nat)) | exact (by decide : ∀ z ∈ ([0, 1] : List Nat), z ∈ ([0, 1, 2, 3] : List Nat)) _ (E_X_X11_needUser ..) | exact (by decide : ∀ z ∈ ([0, 1] : List Nat), z ∈ ([0, 1, 2, 3] : List Nat)) _ (E_X_X11_needFile ..) | exact (by decide : ∀ z ∈ ([0, 2] : List Nat), z ∈ ([0, 1, 2, 3] : List Nat)) _ (E_X_X11_needPartNumber ..)
theorem E_X_X11_becomesWrite {g : vS} {u : Nat} {x : Int32} : X_X11_becomesWrite g u x ∈ ([0, 1] : List Nat) := by
  unfold X_X11_becomesWrite
  (repeat' split) <;> first | exact (by decide : (0 : Nat) ∈ ([0, 1] : List Nat)) | exact (by decide : (1 : Nat) ∈ ([0, 1] : List Nat)) | exact (by decide : ∀ z ∈ ([0, 1] : List Nat), z ∈ ([0, 1] : List Nat)) _ (E_X_X11_needFile ..)
theorem E_XL_X11_comeBack_48 {g : vS} {u : Int32} : ∀ (a0 : Nat) (a1 : Nat) (a2 : Int32) (a3 : vS), XL_X11_comeBack_48 g u a0 a1 a2 a3 ∈ ([0, 1] : List Nat) := by
  intro a0
  induction a0 with
  | zero => intro a1 a2 a3; exact (by decide : (0 : Nat) ∈ ([0, 1] : List Nat))
  | succ n ih =>
    intro a1 a2 a3
    simp only [XL_X11_comeBack_48]
    (repeat' split) <;> first | exact (by decide : (0 : Nat) ∈ ([0, 1] : List Nat)) | exact (by decide : (1 : Nat) ∈ ([0, 1] : List Nat)) | exact ih .. | exact (by decide : ∀ z ∈ ([0, 1] : List Nat), z ∈ ([0, 1] : List Nat)) _ (E_X_X11_becomesWrite ..)
theorem E_X_X11_comeBack {g : vS} {u : Int32} : X_X11_comeBack g u ∈ ([0, 1, 3] : List Nat) := by
  unfold X_X11_comeBack
  (repeat' split) <;> first | exact (by decide : (0 : Nat) ∈ ([0, 1, 3] : List Nat)) | exact (by decide : (1 : Nat) ∈ ([0, 1, 3] : List Nat)) | exact (by decide : (3 : Nat) ∈ ([0, 1, 3] : List Nat)) | exact (by decide : ∀ z ∈ ([0, 1] : List Nat), z ∈ ([0, 1, 3] : List Nat)) _ (E_X_X11_needUser ..) | exact (by decide : ∀ z ∈ ([0, 1] : List Nat), z ∈ ([0, 1, 3] : List Nat)) _ (E_XL_X11_comeBack_48 ..)
theorem E_X_X11_conflictAt {g : vS} {x : Int32} : X_X11_conflictAt g x ∈ ([0, 5] : List Nat) := by
  unfold X_X11_conflictAt
  (repeat' split) <;> first | exact (by decide : (0 : Nat) ∈ ([0, 5] : List Nat)) | exact (by decide : (5 : Nat) ∈ ([0, 5] : List Nat))
theorem E_X_X11_load {g : vS} {a : Int32} : X_X11_load g a ∈ ([0, 1] : List Nat) := by
  unfold X_X11_load
  (repeat' split) <;> first | exact (by decide : (0 : Nat) ∈ ([0, 1] : List Nat)) | exact (by decide : (1 : Nat) ∈ ([0, 1] : List Nat)) | exact (by decide : ∀ z ∈ ([0, 1] : List Nat), z ∈ ([0, 1] : List Nat)) _ (E_X_X11_needGroup ..)
theorem E_X_X11_loadBits {g : vS} {a : Int32} : X_X11_loadBits g a ∈ ([0, 1] : List Nat) := by
  unfold X_X11_loadBits
  (repeat' split) <;> first | exact (by decide : (0 : Nat) ∈ ([0, 1] : List Nat)) | exact (by decide : (1 : Nat) ∈ ([0, 1] : List Nat)) | exact (by decide : ∀ z ∈ ([0, 1] : List Nat), z ∈ ([0, 1] : List Nat)) _ (E_X_X11_needGroup ..)
theorem E_X_X11_meanTold {g : vS} : X_X11_meanTold g ∈ ([0, 6] : List Nat) := by
  unfold X_X11_meanTold
  (repeat' split) <;> first | exact (by decide : (0 : Nat) ∈ ([0, 6] : List Nat)) | exact (by decide : (6 : Nat) ∈ ([0, 6] : List Nat))
theorem E_X_X11_meanToldBits {g : vS} : X_X11_meanToldBits g ∈ ([0, 6] : List Nat) := by
  unfold X_X11_meanToldBits
  (repeat' split) <;> first | exact (by decide : (0 : Nat) ∈ ([0, 6] : List Nat)) | exact (by decide : (6 : Nat) ∈ ([0, 6] : List Nat))
theorem cst_in {c : String} (h : (c, c) ∈ vCs) : Cond.castable c c ∈ vXW := List.mem_append.mpr (Or.inl (List.mem_map.mpr ⟨(c, c), h, rfl⟩))
theorem cst_1 : Cond.castable "java/util/NoSuchElementException" "java/util/NoSuchElementException" ∈ vXW := cst_in (by decide +kernel)
theorem cst_2 : Cond.castable "java/lang/IllegalArgumentException" "java/lang/IllegalArgumentException" ∈ vXW := cst_in (by decide +kernel)
theorem cst_3 : Cond.castable "java/lang/IllegalStateException" "java/lang/IllegalStateException" ∈ vXW := cst_in (by decide +kernel)
theorem cst_4 : Cond.castable "java/lang/UnsupportedOperationException" "java/lang/UnsupportedOperationException" ∈ vXW := cst_in (by decide +kernel)
theorem cst_5 : Cond.castable "java/lang/IndexOutOfBoundsException" "java/lang/IndexOutOfBoundsException" ∈ vXW := cst_in (by decide +kernel)
theorem cst_6 : Cond.castable "java/lang/ArithmeticException" "java/lang/ArithmeticException" ∈ vXW := cst_in (by decide +kernel)
theorem fn64_f2d {x : UInt32} (hx : vf_n32 x) : vf_n64 (FP.f2d x) := by
  rw [fn64_iff]
  unfold FP.f2d
  rw [if_neg (fun h => fn32_iff.mp hx ((FP.Core.fIsNaN_iff x).mp h)), FP.Core.val64_f2d]
  exact fround64 (fn32_iff.mp hx)
theorem nan_load {g : vS} {a : Int32} (hq : g 41 (a).toNatClampNeg 0 ≤ 40) : vf_n32 (V_X11_load g a) := by
  unfold V_X11_load
  (repeat' split) <;> first | exact nan_usedShare hq | (unfold vf_n32; decide +kernel)
def K_L_addUser (n : Nat) : Int32 := if n = 2 then 1 else if n = 3 then 2 else 0
def K_L_addGroup (n : Nat) : Int32 := if n = 1 then 1 else if n = 2 then 2 else if n = 3 then 3 else 0
def K_L_join (n : Nat) : Int32 := if n = 1 then 1 else if n = 3 then 2 else 0
def K_L_leave (n : Nat) : Int32 := if n = 1 then 1 else if n = 2 then 2 else if n = 3 then 3 else 0
def K_L_isMember (n : Nat) : Int32 := if n = 1 then 1 else 0
def K_L_epoch (n : Nat) : Int32 := if n = 1 then 1 else 0
def K_L_known (n : Nat) : Int32 := if n = 1 then 1 else 0
def K_L_addFile (n : Nat) : Int32 := if n = 1 then 1 else if n = 4 then 2 else if n = 3 then 3 else 0
def K_L_write (n : Nat) : Int32 := if n = 1 then 1 else if n = 2 then 2 else if n = 4 then 3 else if n = 3 then 4 else 0
def K_L_read (n : Nat) : Int32 := if n = 1 then 1 else if n = 2 then 2 else if n = 3 then 3 else if n = 4 then 4 else 0
def K_L_canRead (n : Nat) : Int32 := if n = 1 then 1 else if n = 2 then 2 else 0
def K_L_canReadByGrants (n : Nat) : Int32 := if n = 1 then 1 else if n = 2 then 2 else 0
def K_L_cipher (n : Nat) : Int32 := if n = 1 then 1 else if n = 2 then 2 else 0
def K_L_version (n : Nat) : Int32 := if n = 1 then 1 else if n = 2 then 2 else 0
def K_L_writes (n : Nat) : Int32 := if n = 1 then 1 else if n = 2 then 2 else 0
def K_L_mark (n : Nat) : Int32 := if n = 1 then 1 else 0
def K_L_spoil (n : Nat) : Int32 := if n = 1 then 1 else if n = 2 then 2 else 0
def K_L_status (n : Nat) : Int32 := if n = 1 then 1 else 0
def K_L_throwAway (n : Nat) : Int32 := if n = 1 then 1 else if n = 4 then 2 else if n = 3 then 3 else 0
def K_L_parts (n : Nat) : Int32 := if n = 1 then 1 else 0
def K_L_tell (n : Nat) : Int32 := if n = 1 then 1 else if n = 2 then 2 else if n = 4 then 3 else if n = 3 then 4 else 0
def K_L_ask (n : Nat) : Int32 := if n = 1 then 1 else if n = 2 then 2 else if n = 4 then 3 else 0
def K_L_foundAt (n : Nat) : Int32 := if n = 5 then 1 else 0
def K_L_shown (n : Nat) : Int32 := if n = 2 then 1 else 0
def K_L_leaf (n : Nat) : Int32 := if n = 5 then 1 else 0
def K_L_root (n : Nat) : Int32 := if n = 2 then 1 else 0
def K_L_proofLength (n : Nat) : Int32 := if n = 2 then 1 else if n = 5 then 2 else 0
def K_L_proofAt (n : Nat) : Int32 := if n = 2 then 1 else if n = 5 then 2 else 0
def K_L_prefixLength (n : Nat) : Int32 := if n = 2 then 1 else 0
def K_L_prefixAt (n : Nat) : Int32 := if n = 2 then 1 else if n = 5 then 2 else 0
def K_L_forget (n : Nat) : Int32 := if n = 2 then 1 else 0
def K_L_show (n : Nat) : Int32 := if n = 1 then 1 else if n = 2 then 2 else 0
def K_L_meet (n : Nat) : Int32 := if n = 1 then 1 else if n = 2 then 2 else 0
def K_L_head (n : Nat) : Int32 := if n = 1 then 1 else 0
def K_L_alarms (n : Nat) : Int32 := if n = 1 then 1 else 0
def K_L_split (n : Nat) : Int32 := if n = 1 then 1 else if n = 2 then 2 else 0
def K_L_share (n : Nat) : Int32 := if n = 1 then 1 else if n = 3 then 2 else if n = 5 then 3 else 0
def K_L_collect (n : Nat) : Int32 := if n = 2 then 1 else 0
def K_L_recovered (n : Nat) : Int32 := if n = 3 then 1 else 0
def K_L_goAway (n : Nat) : Int32 := if n = 1 then 1 else if n = 3 then 2 else 0
def K_L_draft (n : Nat) : Int32 := if n = 1 then 1 else if n = 2 then 2 else if n = 3 then 3 else 0
def K_L_comeBack (n : Nat) : Int32 := if n = 1 then 1 else if n = 3 then 2 else 0
def K_L_conflictAt (n : Nat) : Int32 := if n = 5 then 1 else 0
def K_L_load (n : Nat) : Int32 := if n = 1 then 1 else 0
def K_L_loadBits (n : Nat) : Int32 := if n = 1 then 1 else 0
def K_L_meanTold (n : Nat) : Int32 := if n = 6 then 1 else 0
def K_L_meanToldBits (n : Nat) : Int32 := if n = 6 then 1 else 0
theorem ncs_2_1 : ("java/lang/IllegalArgumentException", "java/util/NoSuchElementException") ∈ vNcs := by decide +kernel
theorem ncs_3_1 : ("java/lang/IllegalStateException", "java/util/NoSuchElementException") ∈ vNcs := by decide +kernel
theorem ncs_3_2 : ("java/lang/IllegalStateException", "java/lang/IllegalArgumentException") ∈ vNcs := by decide +kernel
theorem ncs_3_4 : ("java/lang/IllegalStateException", "java/lang/UnsupportedOperationException") ∈ vNcs := by decide +kernel
theorem ncs_4_1 : ("java/lang/UnsupportedOperationException", "java/util/NoSuchElementException") ∈ vNcs := by decide +kernel
theorem ncs_4_2 : ("java/lang/UnsupportedOperationException", "java/lang/IllegalArgumentException") ∈ vNcs := by decide +kernel
theorem ncs_4_3 : ("java/lang/UnsupportedOperationException", "java/lang/IllegalStateException") ∈ vNcs := by decide +kernel
theorem ncs_5_1 : ("java/lang/IndexOutOfBoundsException", "java/util/NoSuchElementException") ∈ vNcs := by decide +kernel
theorem ncs_5_2 : ("java/lang/IndexOutOfBoundsException", "java/lang/IllegalArgumentException") ∈ vNcs := by decide +kernel
theorem ncs_5_3 : ("java/lang/IndexOutOfBoundsException", "java/lang/IllegalStateException") ∈ vNcs := by decide +kernel
set_option maxHeartbeats 4000000 in
set_option maxRecDepth 100000 in
theorem c_L_addUser {G : vG} (hG : G.1.stackTraces = false) {A : vN → Nat} {g : vS} {r : vH} (x : Int32) (hr : vNr r) (hfree : g 103 (g 0 0 0).toNatClampNeg 0 = 0) {o : Nat → Int64} (ho : r (91, 0) = some (vJ 1 o)) : vCtH G yL_addUser cL_addUser 4 (some .int) [(0, 9, 12, 13), (0, 9, 15, 15)] 3 [.ref (A (0, 0)), .int (x), .ref (A (91, 0))] A (w g r) (fun v A2 h2 => v = some (.int (K_L_addUser (X_X11_addUser g x))) ∧ vAs 22 26 A2 A ∧ h2 = w (S_X11_addUser g x) (if X_X11_addUser g x = 0 then vup r (91, 0) (vJ 1 (vp_updL o 0 ((V_X11_addUser g x).toInt64))) else r)) 5 43 := by
  refine v_ofH hG (by decide +kernel) (Nat.le_of_ble_eq_true rfl) (lv := [(0, .ref (A (0, 0))), (1, .int (x)), (2, .ref (A (91, 0)))]) rfl (fun X C ht => ?_)
  have C : vC G X cL_addUser 4 RL (some .int) "addUser" 3 5 43 := C
  refine v_aload_n (pc := 0) C dL_addUser_0 2 rfl rfl ?_
  refine v_iconst (v := 0) (pc := 1) C dL_addUser_1 rfl ?_
  refine v_aload_n (pc := 2) C dL_addUser_2 0 rfl rfl ?_
  refine v_iload_n (pc := 3) C dL_addUser_3 1 rfl rfl ?_
  refine v_callV (pc := 4) C (0, 0) ck_0 rfl (c_X11_addUser hG (g := g) x hr hfree) 1 wd_358 wd_62 wd_355 wd_356 wd_357 (by decide +kernel) (by decide) (by decide) rfl ([.int 0, .ref (A (91, 0))]) rfl (Nat.le_of_ble_eq_true rfl) ⟨Nat.le_of_eq (Nat.zero_add _), Nat.le_of_eq (Nat.zero_add _)⟩ dL_addUser_4 (fun cls9 A_1 h9 hE9 => ?_) (fun v9 A_1 h9 hR9 => ?_)
  · obtain ⟨q9, rfl, hA9, rfl⟩ := hE9
    have e9 := E_X_X11_addUser (g := g) (x := x)
    simp only [List.mem_cons, List.not_mem_nil, or_false] at e9
    rcases e9 with e9 | e9 | e9
    · exact absurd e9 q9
    · rw [show vEx (X_X11_addUser g x) = "java/lang/IllegalArgumentException" from by rw [e9]; rfl]
      refine v_catch (name := "java/lang/IllegalArgumentException") C ht [] ⟨0, 9, 12, 13⟩ [⟨0, 9, 15, 15⟩] rfl (fun z hz => by cases hz) (by decide) (by decide) wd_353 cst_2 (fun q8 => ?_)
      refine v_astore_n (lv2 := [(3, .ref q8), (0, .ref (A (0, 0))), (1, .int (x)), (2, .ref (A (91, 0)))]) (pc := 12) C dL_addUser_12 rfl (by decide) rfl ?_
      refine v_iconst (v := 1) (pc := 13) C dL_addUser_13 rfl ?_
      exact v_iret (pc := 14) C (Nat.le_of_eq (Nat.zero_add _)) (Nat.le_of_eq (Nat.zero_add _)) dL_addUser_14 ⟨by rw [e9]; rfl, hA9, by rw [if_neg q9]⟩
    · rw [show vEx (X_X11_addUser g x) = "java/lang/IllegalStateException" from by rw [e9]; rfl]
      refine v_catch (name := "java/lang/IllegalStateException") C ht [⟨0, 9, 12, 13⟩] ⟨0, 9, 15, 15⟩ [] rfl (fun z hz => by simp only [List.mem_cons, List.not_mem_nil, or_false] at hz; rcases hz with rfl <;> first | exact ⟨by decide, "java/lang/IllegalArgumentException", wd_353, ncs_3_2⟩) (by decide) (by decide) wd_354 cst_3 (fun q8 => ?_)
      refine v_astore_n (lv2 := [(3, .ref q8), (0, .ref (A (0, 0))), (1, .int (x)), (2, .ref (A (91, 0)))]) (pc := 15) C dL_addUser_15 rfl (by decide) rfl ?_
      refine v_iconst (v := 2) (pc := 16) C dL_addUser_16 rfl ?_
      exact v_iret (pc := 17) C (Nat.le_of_eq (Nat.zero_add _)) (Nat.le_of_eq (Nat.zero_add _)) dL_addUser_17 ⟨by rw [e9]; rfl, hA9, by rw [if_neg q9]⟩
  · obtain ⟨x9, rfl, hA9, rfl⟩ := hR9
    refine v_st (k2 := 0 + 5) (n2 := 0 + 43) (st2 := [.int (V_X11_addUser g x), .int 0, .ref (A_1 (91, 0))]) rfl rfl (by rw [hA9 (91, 0) (Or.inr (Nat.le_of_ble_eq_true rfl))]; rfl) ?_
    refine v_i2l (pc := 7) C dL_addUser_7 rfl ?_
    refine v_last (pc := 8) C (91, 0) ((w_at (by decide)).trans ho) (by simp only [vp_in_iff]; decide) dL_addUser_8 ?_
    refine v_h (h2 := w (S_X11_addUser g x) (vup r (91, 0) (vJ 1 (vp_updL o 0 ((V_X11_addUser g x).toInt64))))) ((w_vup (by decide)).trans rfl) ?_
    refine v_goto (tgt := 18) (pc := 9) C dL_addUser_9 (by decide) ?_
    refine v_iconst (v := 0) (pc := 18) C dL_addUser_18 rfl ?_
    exact v_iret (pc := 19) C (Nat.le_of_eq (Nat.zero_add _)) (Nat.le_of_eq (Nat.zero_add _)) dL_addUser_19 ⟨by rw [x9]; rfl, hA9, by rw [if_pos x9]⟩
set_option maxHeartbeats 4000000 in
set_option maxRecDepth 100000 in
theorem c_L_addGroup {G : vG} (hG : G.1.stackTraces = false) {A : vN → Nat} {g : vS} {r : vH} (u : Int32) (x : Int32) (hr : vNr r) (hfree : g 104 (g 1 0 0).toNatClampNeg 0 = 0) (hI : vI1 g) {o : Nat → Int64} (ho : r (91, 0) = some (vJ 1 o)) : vCtH G yL_addGroup cL_addGroup 5 (some .int) [(0, 10, 13, 21), (0, 10, 17, 13), (0, 10, 21, 15)] 4 [.ref (A (0, 0)), .int (u), .int (x), .ref (A (91, 0))] A (w g r) (fun v A2 h2 => v = some (.int (K_L_addGroup (X_X11_addGroup g u x))) ∧ vAs 27 29 A2 A ∧ h2 = w (S_X11_addGroup g u x) (if X_X11_addGroup g u x = 0 then vup r (91, 0) (vJ 1 (vp_updL o 0 ((V_X11_addGroup g u x).toInt64))) else r)) 4 26 := by
  refine v_ofH hG (by decide +kernel) (Nat.le_of_ble_eq_true rfl) (lv := [(0, .ref (A (0, 0))), (1, .int (u)), (2, .int (x)), (3, .ref (A (91, 0)))]) rfl (fun X C ht => ?_)
  have C : vC G X cL_addGroup 5 RL (some .int) "addGroup" 4 4 26 := C
  refine v_aload_n (pc := 0) C dL_addGroup_0 3 rfl rfl ?_
  refine v_iconst (v := 0) (pc := 1) C dL_addGroup_1 rfl ?_
  refine v_aload_n (pc := 2) C dL_addGroup_2 0 rfl rfl ?_
  refine v_iload_n (pc := 3) C dL_addGroup_3 1 rfl rfl ?_
  refine v_iload_n (pc := 4) C dL_addGroup_4 2 rfl rfl ?_
  refine v_callV (pc := 5) C (0, 0) ck_0 rfl (c_X11_addGroup hG (g := g) u x hr hfree hI) 2 wd_509 wd_62 wd_506 wd_507 wd_508 (by decide +kernel) (by decide) (by decide) rfl ([.int 0, .ref (A (91, 0))]) rfl (Nat.le_of_ble_eq_true rfl) ⟨Nat.le_of_eq (Nat.zero_add _), Nat.le_of_eq (Nat.zero_add _)⟩ dL_addGroup_5 (fun cls9 A_1 h9 hE9 => ?_) (fun v9 A_1 h9 hR9 => ?_)
  · obtain ⟨q9, rfl, hA9, rfl⟩ := hE9
    have e9 := E_X_X11_addGroup (g := g) (u := u) (x := x)
    simp only [List.mem_cons, List.not_mem_nil, or_false] at e9
    rcases e9 with e9 | e9 | e9 | e9
    · exact absurd e9 q9
    · rw [show vEx (X_X11_addGroup g u x) = "java/util/NoSuchElementException" from by rw [e9]; rfl]
      refine v_catch (name := "java/util/NoSuchElementException") C ht [] ⟨0, 10, 13, 21⟩ [⟨0, 10, 17, 13⟩, ⟨0, 10, 21, 15⟩] rfl (fun z hz => by cases hz) (by decide) (by decide) wd_505 cst_1 (fun q8 => ?_)
      refine v_astore (lv2 := [(4, .ref q8), (0, .ref (A (0, 0))), (1, .int (u)), (2, .int (x)), (3, .ref (A (91, 0)))]) (pc := 13) C dL_addGroup_13 (by decide) rfl ?_
      refine v_iconst (v := 1) (pc := 15) C dL_addGroup_15 rfl ?_
      exact v_iret (pc := 16) C (Nat.le_of_eq (Nat.zero_add _)) (Nat.le_of_eq (Nat.zero_add _)) dL_addGroup_16 ⟨by rw [e9]; rfl, hA9, by rw [if_neg q9]⟩
    · rw [show vEx (X_X11_addGroup g u x) = "java/lang/IllegalArgumentException" from by rw [e9]; rfl]
      refine v_catch (name := "java/lang/IllegalArgumentException") C ht [⟨0, 10, 13, 21⟩] ⟨0, 10, 17, 13⟩ [⟨0, 10, 21, 15⟩] rfl (fun z hz => by simp only [List.mem_cons, List.not_mem_nil, or_false] at hz; rcases hz with rfl <;> first | exact ⟨by decide, "java/util/NoSuchElementException", wd_505, ncs_2_1⟩) (by decide) (by decide) wd_353 cst_2 (fun q8 => ?_)
      refine v_astore (lv2 := [(4, .ref q8), (0, .ref (A (0, 0))), (1, .int (u)), (2, .int (x)), (3, .ref (A (91, 0)))]) (pc := 17) C dL_addGroup_17 (by decide) rfl ?_
      refine v_iconst (v := 2) (pc := 19) C dL_addGroup_19 rfl ?_
      exact v_iret (pc := 20) C (Nat.le_of_eq (Nat.zero_add _)) (Nat.le_of_eq (Nat.zero_add _)) dL_addGroup_20 ⟨by rw [e9]; rfl, hA9, by rw [if_neg q9]⟩
    · rw [show vEx (X_X11_addGroup g u x) = "java/lang/IllegalStateException" from by rw [e9]; rfl]
      refine v_catch (name := "java/lang/IllegalStateException") C ht [⟨0, 10, 13, 21⟩, ⟨0, 10, 17, 13⟩] ⟨0, 10, 21, 15⟩ [] rfl (fun z hz => by simp only [List.mem_cons, List.not_mem_nil, or_false] at hz; rcases hz with rfl | rfl <;> first | exact ⟨by decide, "java/util/NoSuchElementException", wd_505, ncs_3_1⟩ | exact ⟨by decide, "java/lang/IllegalArgumentException", wd_353, ncs_3_2⟩) (by decide) (by decide) wd_354 cst_3 (fun q8 => ?_)
      refine v_astore (lv2 := [(4, .ref q8), (0, .ref (A (0, 0))), (1, .int (u)), (2, .int (x)), (3, .ref (A (91, 0)))]) (pc := 21) C dL_addGroup_21 (by decide) rfl ?_
      refine v_iconst (v := 3) (pc := 23) C dL_addGroup_23 rfl ?_
      exact v_iret (pc := 24) C (Nat.le_of_eq (Nat.zero_add _)) (Nat.le_of_eq (Nat.zero_add _)) dL_addGroup_24 ⟨by rw [e9]; rfl, hA9, by rw [if_neg q9]⟩
  · obtain ⟨x9, rfl, hA9, rfl⟩ := hR9
    refine v_st (k2 := 0 + 4) (n2 := 0 + 26) (st2 := [.int (V_X11_addGroup g u x), .int 0, .ref (A_1 (91, 0))]) rfl rfl (by rw [hA9 (91, 0) (Or.inr (Nat.le_of_ble_eq_true rfl))]; rfl) ?_
    refine v_i2l (pc := 8) C dL_addGroup_8 rfl ?_
    refine v_last (pc := 9) C (91, 0) ((w_at (by decide)).trans ho) (by simp only [vp_in_iff]; decide) dL_addGroup_9 ?_
    refine v_h (h2 := w (S_X11_addGroup g u x) (vup r (91, 0) (vJ 1 (vp_updL o 0 ((V_X11_addGroup g u x).toInt64))))) ((w_vup (by decide)).trans rfl) ?_
    refine v_goto (tgt := 25) (pc := 10) C dL_addGroup_10 (by decide) ?_
    refine v_iconst (v := 0) (pc := 25) C dL_addGroup_25 rfl ?_
    exact v_iret (pc := 26) C (Nat.le_of_eq (Nat.zero_add _)) (Nat.le_of_eq (Nat.zero_add _)) dL_addGroup_26 ⟨by rw [x9]; rfl, hA9, by rw [if_pos x9]⟩
set_option maxHeartbeats 4000000 in
set_option maxRecDepth 100000 in
theorem c_L_join {G : vG} (hG : G.1.stackTraces = false) {A : vN → Nat} {g : vS} {r : vH} (a : Int32) (u : Int32) {o : Nat → Int64} (ho : r (91, 0) = some (vJ 1 o)) : vCtH G yL_join cL_join 5 (some .int) [(0, 10, 13, 21), (0, 10, 17, 15)] 3 [.ref (A (0, 0)), .int (a), .int (u), .ref (A (91, 0))] A (w g r) (fun v A2 h2 => v = some (.int (K_L_join (X_X11_join g a u))) ∧ vAs 1 0 A2 A ∧ h2 = w (S_X11_join g a u) (if X_X11_join g a u = 0 then vup r (91, 0) (vJ 1 (vp_updL o 0 ((V_X11_join g a u).toInt64))) else r)) 3 18 := by
  refine v_ofH hG (by decide +kernel) (Nat.le_of_ble_eq_true rfl) (lv := [(0, .ref (A (0, 0))), (1, .int (a)), (2, .int (u)), (3, .ref (A (91, 0)))]) rfl (fun X C ht => ?_)
  have C : vC G X cL_join 5 RL (some .int) "join" 3 3 18 := C
  refine v_aload_n (pc := 0) C dL_join_0 3 rfl rfl ?_
  refine v_iconst (v := 0) (pc := 1) C dL_join_1 rfl ?_
  refine v_aload_n (pc := 2) C dL_join_2 0 rfl rfl ?_
  refine v_iload_n (pc := 3) C dL_join_3 1 rfl rfl ?_
  refine v_iload_n (pc := 4) C dL_join_4 2 rfl rfl ?_
  refine v_callV (pc := 5) C (0, 0) ck_0 rfl (c_X11_join hG (g := g) a u ) 2 wd_587 wd_62 wd_584 wd_585 wd_586 (by decide +kernel) (by decide) (by decide) rfl ([.int 0, .ref (A (91, 0))]) rfl (Nat.le_of_ble_eq_true rfl) ⟨Nat.le_of_eq (Nat.zero_add _), Nat.le_of_eq (Nat.zero_add _)⟩ dL_join_5 (fun cls9 A_1 h9 hE9 => ?_) (fun v9 A_1 h9 hR9 => ?_)
  · obtain ⟨q9, rfl, hA9, rfl⟩ := hE9
    have e9 := E_X_X11_join (g := g) (a := a) (u := u)
    simp only [List.mem_cons, List.not_mem_nil, or_false] at e9
    rcases e9 with e9 | e9 | e9
    · exact absurd e9 q9
    · rw [show vEx (X_X11_join g a u) = "java/util/NoSuchElementException" from by rw [e9]; rfl]
      refine v_catch (name := "java/util/NoSuchElementException") C ht [] ⟨0, 10, 13, 21⟩ [⟨0, 10, 17, 15⟩] rfl (fun z hz => by cases hz) (by decide) (by decide) wd_505 cst_1 (fun q8 => ?_)
      refine v_astore (lv2 := [(4, .ref q8), (0, .ref (A (0, 0))), (1, .int (a)), (2, .int (u)), (3, .ref (A (91, 0)))]) (pc := 13) C dL_join_13 (by decide) rfl ?_
      refine v_iconst (v := 1) (pc := 15) C dL_join_15 rfl ?_
      exact v_iret (pc := 16) C (Nat.le_of_eq (Nat.zero_add _)) (Nat.le_of_eq (Nat.zero_add _)) dL_join_16 ⟨by rw [e9]; rfl, (hA9 ▸ vAs_r), by rw [if_neg q9]⟩
    · rw [show vEx (X_X11_join g a u) = "java/lang/IllegalStateException" from by rw [e9]; rfl]
      refine v_catch (name := "java/lang/IllegalStateException") C ht [⟨0, 10, 13, 21⟩] ⟨0, 10, 17, 15⟩ [] rfl (fun z hz => by simp only [List.mem_cons, List.not_mem_nil, or_false] at hz; rcases hz with rfl <;> first | exact ⟨by decide, "java/util/NoSuchElementException", wd_505, ncs_3_1⟩) (by decide) (by decide) wd_354 cst_3 (fun q8 => ?_)
      refine v_astore (lv2 := [(4, .ref q8), (0, .ref (A (0, 0))), (1, .int (a)), (2, .int (u)), (3, .ref (A (91, 0)))]) (pc := 17) C dL_join_17 (by decide) rfl ?_
      refine v_iconst (v := 2) (pc := 19) C dL_join_19 rfl ?_
      exact v_iret (pc := 20) C (Nat.le_of_eq (Nat.zero_add _)) (Nat.le_of_eq (Nat.zero_add _)) dL_join_20 ⟨by rw [e9]; rfl, (hA9 ▸ vAs_r), by rw [if_neg q9]⟩
  · obtain ⟨x9, rfl, hA9, rfl⟩ := hR9
    refine v_st (k2 := 0 + 3) (n2 := 0 + 18) (st2 := [.int (V_X11_join g a u), .int 0, .ref (A_1 (91, 0))]) rfl rfl (by rw [hA9]; rfl) ?_
    refine v_i2l (pc := 8) C dL_join_8 rfl ?_
    refine v_last (pc := 9) C (91, 0) ((w_at (by decide)).trans ho) (by simp only [vp_in_iff]; decide) dL_join_9 ?_
    refine v_h (h2 := w (S_X11_join g a u) (vup r (91, 0) (vJ 1 (vp_updL o 0 ((V_X11_join g a u).toInt64))))) ((w_vup (by decide)).trans rfl) ?_
    refine v_goto (tgt := 21) (pc := 10) C dL_join_10 (by decide) ?_
    refine v_iconst (v := 0) (pc := 21) C dL_join_21 rfl ?_
    exact v_iret (pc := 22) C (Nat.le_of_eq (Nat.zero_add _)) (Nat.le_of_eq (Nat.zero_add _)) dL_join_22 ⟨by rw [x9]; rfl, (hA9 ▸ vAs_r), by rw [if_pos x9]⟩
set_option maxHeartbeats 4000000 in
set_option maxRecDepth 100000 in
theorem c_L_leave {G : vG} (hG : G.1.stackTraces = false) {A : vN → Nat} {g : vS} {r : vH} (a : Int32) (u : Int32) (zz : Int32) (hI : vI1 g) {o : Nat → Int64} (ho : r (91, 0) = some (vJ 1 o)) : vCtH G yL_leave cL_leave 6 (some .int) [(0, 12, 15, 21), (0, 12, 19, 13), (0, 12, 23, 15)] 6 [.ref (A (0, 0)), .int (a), .int (u), .int (zz), .ref (A (91, 0))] A (w g r) (fun v A2 h2 => v = some (.int (K_L_leave (X_X11_leave g a u zz))) ∧ vAs 1 0 A2 A ∧ h2 = w (S_X11_leave g a u zz) (if X_X11_leave g a u zz = 0 then vup r (91, 0) (vJ 1 (vp_updL o 0 ((V_X11_leave g a u zz).toInt64))) else r)) 2 12 := by
  refine v_ofH hG (by decide +kernel) (Nat.le_of_ble_eq_true rfl) (lv := [(0, .ref (A (0, 0))), (1, .int (a)), (2, .int (u)), (3, .int (zz)), (4, .ref (A (91, 0)))]) rfl (fun X C ht => ?_)
  have C : vC G X cL_leave 6 RL (some .int) "leave" 6 2 12 := C
  refine v_aload (pc := 0) C dL_leave_0 4 rfl ?_
  refine v_iconst (v := 0) (pc := 2) C dL_leave_2 rfl ?_
  refine v_aload_n (pc := 3) C dL_leave_3 0 rfl rfl ?_
  refine v_iload_n (pc := 4) C dL_leave_4 1 rfl rfl ?_
  refine v_iload_n (pc := 5) C dL_leave_5 2 rfl rfl ?_
  refine v_iload_n (pc := 6) C dL_leave_6 3 rfl rfl ?_
  refine v_callV (pc := 7) C (0, 0) ck_0 rfl (c_X11_leave hG (g := g) a u zz hI) 3 wd_619 wd_62 wd_616 wd_617 wd_618 (by decide +kernel) (by decide) (by decide) rfl ([.int 0, .ref (A (91, 0))]) rfl (Nat.le_of_ble_eq_true rfl) ⟨Nat.le_of_eq (Nat.zero_add _), Nat.le_of_eq (Nat.zero_add _)⟩ dL_leave_7 (fun cls9 A_1 h9 hE9 => ?_) (fun v9 A_1 h9 hR9 => ?_)
  · obtain ⟨q9, rfl, hA9, rfl⟩ := hE9
    have e9 := E_X_X11_leave (g := g) (a := a) (u := u) (zz := zz)
    simp only [List.mem_cons, List.not_mem_nil, or_false] at e9
    rcases e9 with e9 | e9 | e9 | e9
    · exact absurd e9 q9
    · rw [show vEx (X_X11_leave g a u zz) = "java/util/NoSuchElementException" from by rw [e9]; rfl]
      refine v_catch (name := "java/util/NoSuchElementException") C ht [] ⟨0, 12, 15, 21⟩ [⟨0, 12, 19, 13⟩, ⟨0, 12, 23, 15⟩] rfl (fun z hz => by cases hz) (by decide) (by decide) wd_505 cst_1 (fun q8 => ?_)
      refine v_astore (lv2 := [(5, .ref q8), (0, .ref (A (0, 0))), (1, .int (a)), (2, .int (u)), (3, .int (zz)), (4, .ref (A (91, 0)))]) (pc := 15) C dL_leave_15 (by decide) rfl ?_
      refine v_iconst (v := 1) (pc := 17) C dL_leave_17 rfl ?_
      exact v_iret (pc := 18) C (Nat.le_of_eq (Nat.zero_add _)) (Nat.le_of_eq (Nat.zero_add _)) dL_leave_18 ⟨by rw [e9]; rfl, (hA9 ▸ vAs_r), by rw [if_neg q9]⟩
    · rw [show vEx (X_X11_leave g a u zz) = "java/lang/IllegalArgumentException" from by rw [e9]; rfl]
      refine v_catch (name := "java/lang/IllegalArgumentException") C ht [⟨0, 12, 15, 21⟩] ⟨0, 12, 19, 13⟩ [⟨0, 12, 23, 15⟩] rfl (fun z hz => by simp only [List.mem_cons, List.not_mem_nil, or_false] at hz; rcases hz with rfl <;> first | exact ⟨by decide, "java/util/NoSuchElementException", wd_505, ncs_2_1⟩) (by decide) (by decide) wd_353 cst_2 (fun q8 => ?_)
      refine v_astore (lv2 := [(5, .ref q8), (0, .ref (A (0, 0))), (1, .int (a)), (2, .int (u)), (3, .int (zz)), (4, .ref (A (91, 0)))]) (pc := 19) C dL_leave_19 (by decide) rfl ?_
      refine v_iconst (v := 2) (pc := 21) C dL_leave_21 rfl ?_
      exact v_iret (pc := 22) C (Nat.le_of_eq (Nat.zero_add _)) (Nat.le_of_eq (Nat.zero_add _)) dL_leave_22 ⟨by rw [e9]; rfl, (hA9 ▸ vAs_r), by rw [if_neg q9]⟩
    · rw [show vEx (X_X11_leave g a u zz) = "java/lang/IllegalStateException" from by rw [e9]; rfl]
      refine v_catch (name := "java/lang/IllegalStateException") C ht [⟨0, 12, 15, 21⟩, ⟨0, 12, 19, 13⟩] ⟨0, 12, 23, 15⟩ [] rfl (fun z hz => by simp only [List.mem_cons, List.not_mem_nil, or_false] at hz; rcases hz with rfl | rfl <;> first | exact ⟨by decide, "java/util/NoSuchElementException", wd_505, ncs_3_1⟩ | exact ⟨by decide, "java/lang/IllegalArgumentException", wd_353, ncs_3_2⟩) (by decide) (by decide) wd_354 cst_3 (fun q8 => ?_)
      refine v_astore (lv2 := [(5, .ref q8), (0, .ref (A (0, 0))), (1, .int (a)), (2, .int (u)), (3, .int (zz)), (4, .ref (A (91, 0)))]) (pc := 23) C dL_leave_23 (by decide) rfl ?_
      refine v_iconst (v := 3) (pc := 25) C dL_leave_25 rfl ?_
      exact v_iret (pc := 26) C (Nat.le_of_eq (Nat.zero_add _)) (Nat.le_of_eq (Nat.zero_add _)) dL_leave_26 ⟨by rw [e9]; rfl, (hA9 ▸ vAs_r), by rw [if_neg q9]⟩
  · obtain ⟨x9, rfl, hA9, rfl⟩ := hR9
    refine v_st (k2 := 0 + 2) (n2 := 0 + 12) (st2 := [.int (V_X11_leave g a u zz), .int 0, .ref (A_1 (91, 0))]) rfl rfl (by rw [hA9]; rfl) ?_
    refine v_i2l (pc := 10) C dL_leave_10 rfl ?_
    refine v_last (pc := 11) C (91, 0) ((w_at (by decide)).trans ho) (by simp only [vp_in_iff]; decide) dL_leave_11 ?_
    refine v_h (h2 := w (S_X11_leave g a u zz) (vup r (91, 0) (vJ 1 (vp_updL o 0 ((V_X11_leave g a u zz).toInt64))))) ((w_vup (by decide)).trans rfl) ?_
    refine v_goto (tgt := 27) (pc := 12) C dL_leave_12 (by decide) ?_
    refine v_iconst (v := 0) (pc := 27) C dL_leave_27 rfl ?_
    exact v_iret (pc := 28) C (Nat.le_of_eq (Nat.zero_add _)) (Nat.le_of_eq (Nat.zero_add _)) dL_leave_28 ⟨by rw [x9]; rfl, (hA9 ▸ vAs_r), by rw [if_pos x9]⟩
set_option maxHeartbeats 4000000 in
set_option maxRecDepth 100000 in
theorem c_L_isMember {G : vG} (hG : G.1.stackTraces = false) {A : vN → Nat} {g : vS} {r : vH} (a : Int32) (u : Int32) {o : Nat → Int64} (ho : r (91, 0) = some (vJ 1 o)) : vCtH G yL_isMember cL_isMember 5 (some .int) [(0, 17, 20, 21)] 2 [.ref (A (0, 0)), .int (a), .int (u), .ref (A (91, 0))] A (w g r) (fun v A2 h2 => v = some (.int (K_L_isMember (X_X11_isMember g a u))) ∧ vAs 1 0 A2 A ∧ h2 = w g (if X_X11_isMember g a u = 0 then vup r (91, 0) (vJ 1 (vp_updL o 0 ((if (V_X11_isMember g a u) = 0 then 0 else 1 : Int64)))) else r)) 2 12 := by
  refine v_ofH hG (by decide +kernel) (Nat.le_of_ble_eq_true rfl) (lv := [(0, .ref (A (0, 0))), (1, .int (a)), (2, .int (u)), (3, .ref (A (91, 0)))]) rfl (fun X C ht => ?_)
  have C : vC G X cL_isMember 5 RL (some .int) "isMember" 2 2 12 := C
  refine v_aload_n (pc := 0) C dL_isMember_0 3 rfl rfl ?_
  refine v_iconst (v := 0) (pc := 1) C dL_isMember_1 rfl ?_
  refine v_aload_n (pc := 2) C dL_isMember_2 0 rfl rfl ?_
  refine v_iload_n (pc := 3) C dL_isMember_3 1 rfl rfl ?_
  refine v_iload_n (pc := 4) C dL_isMember_4 2 rfl rfl ?_
  refine v_callV (pc := 5) C (0, 0) ck_0 rfl (c_X11_isMember hG (g := g) a u ) 2 wd_657 wd_62 wd_654 wd_655 wd_656 (by decide +kernel) (by decide) (by decide) rfl ([.int 0, .ref (A (91, 0))]) rfl (Nat.le_of_ble_eq_true rfl) ⟨Nat.le_of_eq (Nat.zero_add _), Nat.le_of_eq (Nat.zero_add _)⟩ dL_isMember_5 (fun cls9 A_1 h9 hE9 => ?_) (fun v9 A_1 h9 hR9 => ?_)
  · obtain ⟨q9, rfl, hA9, rfl⟩ := hE9
    have e9 := E_X_X11_isMember (g := g) (a := a) (u := u)
    simp only [List.mem_cons, List.not_mem_nil, or_false] at e9
    rcases e9 with e9 | e9
    · exact absurd e9 q9
    · rw [show vEx (X_X11_isMember g a u) = "java/util/NoSuchElementException" from by rw [e9]; rfl]
      refine v_catch (name := "java/util/NoSuchElementException") C ht [] ⟨0, 17, 20, 21⟩ [] rfl (fun z hz => by cases hz) (by decide) (by decide) wd_505 cst_1 (fun q8 => ?_)
      refine v_astore (lv2 := [(4, .ref q8), (0, .ref (A (0, 0))), (1, .int (a)), (2, .int (u)), (3, .ref (A (91, 0)))]) (pc := 20) C dL_isMember_20 (by decide) rfl ?_
      refine v_iconst (v := 1) (pc := 22) C dL_isMember_22 rfl ?_
      exact v_iret (pc := 23) C (Nat.le_of_eq (Nat.zero_add _)) (Nat.le_of_eq (Nat.zero_add _)) dL_isMember_23 ⟨by rw [e9]; rfl, (hA9 ▸ vAs_r), by rw [if_neg q9]⟩
  · obtain ⟨x9, rfl, hA9, rfl⟩ := hR9
    refine v_st (k2 := 0 + 2) (n2 := 0 + 12) (st2 := [.int (V_X11_isMember g a u), .int 0, .ref (A_1 (91, 0))]) rfl rfl (by rw [hA9]; rfl) ?_
    refine v_if_eq (pc := 8) (tgt := 15) C dL_isMember_8 (by decide) (fun c9 => ?_) (fun c9 => ?_)
    · refine v_lconst (v := 0) (pc := 15) C dL_isMember_15 rfl ?_
      refine v_last (pc := 16) C (91, 0) ((w_at (by decide)).trans ho) (by simp only [vp_in_iff]; decide) dL_isMember_16 ?_
      refine v_h (h2 := w g (vup r (91, 0) (vJ 1 (vp_updL o 0 ((if (V_X11_isMember g a u) = 0 then 0 else 1 : Int64)))))) ((w_vup (by decide)).trans (by rw [if_pos c9]; rfl)) ?_
      refine v_goto (tgt := 24) (pc := 17) C dL_isMember_17 (by decide) ?_
      refine v_iconst (v := 0) (pc := 24) C dL_isMember_24 rfl ?_
      exact v_iret (pc := 25) C (Nat.le_of_eq (Nat.zero_add _)) (Nat.le_of_eq (Nat.zero_add _)) dL_isMember_25 ⟨by rw [x9]; rfl, (hA9 ▸ vAs_r), by rw [if_pos x9]⟩
    · refine v_lconst (v := 1) (pc := 11) C dL_isMember_11 rfl ?_
      refine v_goto (tgt := 16) (pc := 12) C dL_isMember_12 (by decide) ?_
      refine v_last (pc := 16) C (91, 0) ((w_at (by decide)).trans ho) (by simp only [vp_in_iff]; decide) dL_isMember_16 ?_
      refine v_h (h2 := w g (vup r (91, 0) (vJ 1 (vp_updL o 0 ((if (V_X11_isMember g a u) = 0 then 0 else 1 : Int64)))))) ((w_vup (by decide)).trans (by rw [if_neg c9]; rfl)) ?_
      refine v_goto (tgt := 24) (pc := 17) C dL_isMember_17 (by decide) ?_
      refine v_iconst (v := 0) (pc := 24) C dL_isMember_24 rfl ?_
      exact v_iret (pc := 25) C (Nat.le_of_eq (Nat.zero_add _)) (Nat.le_of_eq (Nat.zero_add _)) dL_isMember_25 ⟨by rw [x9]; rfl, (hA9 ▸ vAs_r), by rw [if_pos x9]⟩
set_option maxHeartbeats 4000000 in
set_option maxRecDepth 100000 in
theorem c_L_epoch {G : vG} (hG : G.1.stackTraces = false) {A : vN → Nat} {g : vS} {r : vH} (a : Int32) {o : Nat → Int64} (ho : r (91, 0) = some (vJ 1 o)) : vCtH G yL_epoch cL_epoch 4 (some .int) [(0, 9, 12, 21)] 2 [.ref (A (0, 0)), .int (a), .ref (A (91, 0))] A (w g r) (fun v A2 h2 => v = some (.int (K_L_epoch (X_X11_epoch g a))) ∧ vAs 1 0 A2 A ∧ h2 = w g (if X_X11_epoch g a = 0 then vup r (91, 0) (vJ 1 (vp_updL o 0 ((V_X11_epoch g a).toInt64))) else r)) 1 6 := by
  refine v_ofH hG (by decide +kernel) (Nat.le_of_ble_eq_true rfl) (lv := [(0, .ref (A (0, 0))), (1, .int (a)), (2, .ref (A (91, 0)))]) rfl (fun X C ht => ?_)
  have C : vC G X cL_epoch 4 RL (some .int) "epoch" 2 1 6 := C
  refine v_aload_n (pc := 0) C dL_epoch_0 2 rfl rfl ?_
  refine v_iconst (v := 0) (pc := 1) C dL_epoch_1 rfl ?_
  refine v_aload_n (pc := 2) C dL_epoch_2 0 rfl rfl ?_
  refine v_iload_n (pc := 3) C dL_epoch_3 1 rfl rfl ?_
  refine v_callV (pc := 4) C (0, 0) ck_0 rfl (c_X11_epoch hG (g := g) a ) 1 wd_664 wd_62 wd_661 wd_662 wd_663 (by decide +kernel) (by decide) (by decide) rfl ([.int 0, .ref (A (91, 0))]) rfl (Nat.le_of_ble_eq_true rfl) ⟨Nat.le_of_eq (Nat.zero_add _), Nat.le_of_eq (Nat.zero_add _)⟩ dL_epoch_4 (fun cls9 A_1 h9 hE9 => ?_) (fun v9 A_1 h9 hR9 => ?_)
  · obtain ⟨q9, rfl, hA9, rfl⟩ := hE9
    have e9 := E_X_X11_epoch (g := g) (a := a)
    simp only [List.mem_cons, List.not_mem_nil, or_false] at e9
    rcases e9 with e9 | e9
    · exact absurd e9 q9
    · rw [show vEx (X_X11_epoch g a) = "java/util/NoSuchElementException" from by rw [e9]; rfl]
      refine v_catch (name := "java/util/NoSuchElementException") C ht [] ⟨0, 9, 12, 21⟩ [] rfl (fun z hz => by cases hz) (by decide) (by decide) wd_505 cst_1 (fun q8 => ?_)
      refine v_astore_n (lv2 := [(3, .ref q8), (0, .ref (A (0, 0))), (1, .int (a)), (2, .ref (A (91, 0)))]) (pc := 12) C dL_epoch_12 rfl (by decide) rfl ?_
      refine v_iconst (v := 1) (pc := 13) C dL_epoch_13 rfl ?_
      exact v_iret (pc := 14) C (Nat.le_of_eq (Nat.zero_add _)) (Nat.le_of_eq (Nat.zero_add _)) dL_epoch_14 ⟨by rw [e9]; rfl, (hA9 ▸ vAs_r), by rw [if_neg q9]⟩
  · obtain ⟨x9, rfl, hA9, rfl⟩ := hR9
    refine v_st (k2 := 0 + 1) (n2 := 0 + 6) (st2 := [.int (V_X11_epoch g a), .int 0, .ref (A_1 (91, 0))]) rfl rfl (by rw [hA9]; rfl) ?_
    refine v_i2l (pc := 7) C dL_epoch_7 rfl ?_
    refine v_last (pc := 8) C (91, 0) ((w_at (by decide)).trans ho) (by simp only [vp_in_iff]; decide) dL_epoch_8 ?_
    refine v_h (h2 := w g (vup r (91, 0) (vJ 1 (vp_updL o 0 ((V_X11_epoch g a).toInt64))))) ((w_vup (by decide)).trans rfl) ?_
    refine v_goto (tgt := 15) (pc := 9) C dL_epoch_9 (by decide) ?_
    refine v_iconst (v := 0) (pc := 15) C dL_epoch_15 rfl ?_
    exact v_iret (pc := 16) C (Nat.le_of_eq (Nat.zero_add _)) (Nat.le_of_eq (Nat.zero_add _)) dL_epoch_16 ⟨by rw [x9]; rfl, (hA9 ▸ vAs_r), by rw [if_pos x9]⟩
set_option maxHeartbeats 4000000 in
set_option maxRecDepth 100000 in
theorem c_L_known {G : vG} (hG : G.1.stackTraces = false) {A : vN → Nat} {g : vS} {r : vH} (a : Int32) (u : Int32) {o : Nat → Int64} (ho : r (91, 0) = some (vJ 1 o)) : vCtH G yL_known cL_known 5 (some .int) [(0, 10, 13, 21)] 3 [.ref (A (0, 0)), .int (a), .int (u), .ref (A (91, 0))] A (w g r) (fun v A2 h2 => v = some (.int (K_L_known (X_X11_known g a u))) ∧ vAs 1 0 A2 A ∧ h2 = w g (if X_X11_known g a u = 0 then vup r (91, 0) (vJ 1 (vp_updL o 0 ((V_X11_known g a u).toInt64))) else r)) 2 12 := by
  refine v_ofH hG (by decide +kernel) (Nat.le_of_ble_eq_true rfl) (lv := [(0, .ref (A (0, 0))), (1, .int (a)), (2, .int (u)), (3, .ref (A (91, 0)))]) rfl (fun X C ht => ?_)
  have C : vC G X cL_known 5 RL (some .int) "known" 3 2 12 := C
  refine v_aload_n (pc := 0) C dL_known_0 3 rfl rfl ?_
  refine v_iconst (v := 0) (pc := 1) C dL_known_1 rfl ?_
  refine v_aload_n (pc := 2) C dL_known_2 0 rfl rfl ?_
  refine v_iload_n (pc := 3) C dL_known_3 1 rfl rfl ?_
  refine v_iload_n (pc := 4) C dL_known_4 2 rfl rfl ?_
  refine v_callV (pc := 5) C (0, 0) ck_0 rfl (c_X11_known hG (g := g) a u ) 2 wd_671 wd_62 wd_668 wd_669 wd_670 (by decide +kernel) (by decide) (by decide) rfl ([.int 0, .ref (A (91, 0))]) rfl (Nat.le_of_ble_eq_true rfl) ⟨Nat.le_of_eq (Nat.zero_add _), Nat.le_of_eq (Nat.zero_add _)⟩ dL_known_5 (fun cls9 A_1 h9 hE9 => ?_) (fun v9 A_1 h9 hR9 => ?_)
  · obtain ⟨q9, rfl, hA9, rfl⟩ := hE9
    have e9 := E_X_X11_known (g := g) (a := a) (u := u)
    simp only [List.mem_cons, List.not_mem_nil, or_false] at e9
    rcases e9 with e9 | e9
    · exact absurd e9 q9
    · rw [show vEx (X_X11_known g a u) = "java/util/NoSuchElementException" from by rw [e9]; rfl]
      refine v_catch (name := "java/util/NoSuchElementException") C ht [] ⟨0, 10, 13, 21⟩ [] rfl (fun z hz => by cases hz) (by decide) (by decide) wd_505 cst_1 (fun q8 => ?_)
      refine v_astore (lv2 := [(4, .ref q8), (0, .ref (A (0, 0))), (1, .int (a)), (2, .int (u)), (3, .ref (A (91, 0)))]) (pc := 13) C dL_known_13 (by decide) rfl ?_
      refine v_iconst (v := 1) (pc := 15) C dL_known_15 rfl ?_
      exact v_iret (pc := 16) C (Nat.le_of_eq (Nat.zero_add _)) (Nat.le_of_eq (Nat.zero_add _)) dL_known_16 ⟨by rw [e9]; rfl, (hA9 ▸ vAs_r), by rw [if_neg q9]⟩
  · obtain ⟨x9, rfl, hA9, rfl⟩ := hR9
    refine v_st (k2 := 0 + 2) (n2 := 0 + 12) (st2 := [.int (V_X11_known g a u), .int 0, .ref (A_1 (91, 0))]) rfl rfl (by rw [hA9]; rfl) ?_
    refine v_i2l (pc := 8) C dL_known_8 rfl ?_
    refine v_last (pc := 9) C (91, 0) ((w_at (by decide)).trans ho) (by simp only [vp_in_iff]; decide) dL_known_9 ?_
    refine v_h (h2 := w g (vup r (91, 0) (vJ 1 (vp_updL o 0 ((V_X11_known g a u).toInt64))))) ((w_vup (by decide)).trans rfl) ?_
    refine v_goto (tgt := 17) (pc := 10) C dL_known_10 (by decide) ?_
    refine v_iconst (v := 0) (pc := 17) C dL_known_17 rfl ?_
    exact v_iret (pc := 18) C (Nat.le_of_eq (Nat.zero_add _)) (Nat.le_of_eq (Nat.zero_add _)) dL_known_18 ⟨by rw [x9]; rfl, (hA9 ▸ vAs_r), by rw [if_pos x9]⟩
set_option maxHeartbeats 4000000 in
set_option maxRecDepth 100000 in
theorem c_L_addFile {G : vG} (hG : G.1.stackTraces = false) {A : vN → Nat} {g : vS} {r : vH} (a : Int32) (u : Int32) (hr : vNr r) (hfree : g 105 (g 2 0 0).toNatClampNeg 0 = 0) {o : Nat → Int64} (ho : r (91, 0) = some (vJ 1 o)) : vCtH G yL_addFile cL_addFile 5 (some .int) [(0, 10, 13, 21), (0, 10, 17, 43), (0, 10, 21, 15)] 4 [.ref (A (0, 0)), .int (a), .int (u), .ref (A (91, 0))] A (w g r) (fun v A2 h2 => v = some (.int (K_L_addFile (X_X11_addFile g a u))) ∧ vAs 30 31 A2 A ∧ h2 = w (S_X11_addFile g a u) (if X_X11_addFile g a u = 0 then vup r (91, 0) (vJ 1 (vp_updL o 0 ((V_X11_addFile g a u).toInt64))) else r)) 5 35 := by
  refine v_ofH hG (by decide +kernel) (Nat.le_of_ble_eq_true rfl) (lv := [(0, .ref (A (0, 0))), (1, .int (a)), (2, .int (u)), (3, .ref (A (91, 0)))]) rfl (fun X C ht => ?_)
  have C : vC G X cL_addFile 5 RL (some .int) "addFile" 4 5 35 := C
  refine v_aload_n (pc := 0) C dL_addFile_0 3 rfl rfl ?_
  refine v_iconst (v := 0) (pc := 1) C dL_addFile_1 rfl ?_
  refine v_aload_n (pc := 2) C dL_addFile_2 0 rfl rfl ?_
  refine v_iload_n (pc := 3) C dL_addFile_3 1 rfl rfl ?_
  refine v_iload_n (pc := 4) C dL_addFile_4 2 rfl rfl ?_
  refine v_callV (pc := 5) C (0, 0) ck_0 rfl (c_X11_addFile hG (g := g) a u hr hfree) 2 wd_679 wd_62 wd_676 wd_677 wd_678 (by decide +kernel) (by decide) (by decide) rfl ([.int 0, .ref (A (91, 0))]) rfl (Nat.le_of_ble_eq_true rfl) ⟨Nat.le_of_eq (Nat.zero_add _), Nat.le_of_eq (Nat.zero_add _)⟩ dL_addFile_5 (fun cls9 A_1 h9 hE9 => ?_) (fun v9 A_1 h9 hR9 => ?_)
  · obtain ⟨q9, rfl, hA9, rfl⟩ := hE9
    have e9 := E_X_X11_addFile (g := g) (a := a) (u := u)
    simp only [List.mem_cons, List.not_mem_nil, or_false] at e9
    rcases e9 with e9 | e9 | e9 | e9
    · exact absurd e9 q9
    · rw [show vEx (X_X11_addFile g a u) = "java/util/NoSuchElementException" from by rw [e9]; rfl]
      refine v_catch (name := "java/util/NoSuchElementException") C ht [] ⟨0, 10, 13, 21⟩ [⟨0, 10, 17, 43⟩, ⟨0, 10, 21, 15⟩] rfl (fun z hz => by cases hz) (by decide) (by decide) wd_505 cst_1 (fun q8 => ?_)
      refine v_astore (lv2 := [(4, .ref q8), (0, .ref (A (0, 0))), (1, .int (a)), (2, .int (u)), (3, .ref (A (91, 0)))]) (pc := 13) C dL_addFile_13 (by decide) rfl ?_
      refine v_iconst (v := 1) (pc := 15) C dL_addFile_15 rfl ?_
      exact v_iret (pc := 16) C (Nat.le_of_eq (Nat.zero_add _)) (Nat.le_of_eq (Nat.zero_add _)) dL_addFile_16 ⟨by rw [e9]; rfl, hA9, by rw [if_neg q9]⟩
    · rw [show vEx (X_X11_addFile g a u) = "java/lang/IllegalStateException" from by rw [e9]; rfl]
      refine v_catch (name := "java/lang/IllegalStateException") C ht [⟨0, 10, 13, 21⟩, ⟨0, 10, 17, 43⟩] ⟨0, 10, 21, 15⟩ [] rfl (fun z hz => by simp only [List.mem_cons, List.not_mem_nil, or_false] at hz; rcases hz with rfl | rfl <;> first | exact ⟨by decide, "java/util/NoSuchElementException", wd_505, ncs_3_1⟩ | exact ⟨by decide, "java/lang/UnsupportedOperationException", wd_675, ncs_3_4⟩) (by decide) (by decide) wd_354 cst_3 (fun q8 => ?_)
      refine v_astore (lv2 := [(4, .ref q8), (0, .ref (A (0, 0))), (1, .int (a)), (2, .int (u)), (3, .ref (A (91, 0)))]) (pc := 21) C dL_addFile_21 (by decide) rfl ?_
      refine v_iconst (v := 3) (pc := 23) C dL_addFile_23 rfl ?_
      exact v_iret (pc := 24) C (Nat.le_of_eq (Nat.zero_add _)) (Nat.le_of_eq (Nat.zero_add _)) dL_addFile_24 ⟨by rw [e9]; rfl, hA9, by rw [if_neg q9]⟩
    · rw [show vEx (X_X11_addFile g a u) = "java/lang/UnsupportedOperationException" from by rw [e9]; rfl]
      refine v_catch (name := "java/lang/UnsupportedOperationException") C ht [⟨0, 10, 13, 21⟩] ⟨0, 10, 17, 43⟩ [⟨0, 10, 21, 15⟩] rfl (fun z hz => by simp only [List.mem_cons, List.not_mem_nil, or_false] at hz; rcases hz with rfl <;> first | exact ⟨by decide, "java/util/NoSuchElementException", wd_505, ncs_4_1⟩) (by decide) (by decide) wd_675 cst_4 (fun q8 => ?_)
      refine v_astore (lv2 := [(4, .ref q8), (0, .ref (A (0, 0))), (1, .int (a)), (2, .int (u)), (3, .ref (A (91, 0)))]) (pc := 17) C dL_addFile_17 (by decide) rfl ?_
      refine v_iconst (v := 2) (pc := 19) C dL_addFile_19 rfl ?_
      exact v_iret (pc := 20) C (Nat.le_of_eq (Nat.zero_add _)) (Nat.le_of_eq (Nat.zero_add _)) dL_addFile_20 ⟨by rw [e9]; rfl, hA9, by rw [if_neg q9]⟩
  · obtain ⟨x9, rfl, hA9, rfl⟩ := hR9
    refine v_st (k2 := 0 + 5) (n2 := 0 + 35) (st2 := [.int (V_X11_addFile g a u), .int 0, .ref (A_1 (91, 0))]) rfl rfl (by rw [hA9 (91, 0) (Or.inr (Nat.le_of_ble_eq_true rfl))]; rfl) ?_
    refine v_i2l (pc := 8) C dL_addFile_8 rfl ?_
    refine v_last (pc := 9) C (91, 0) ((w_at (by decide)).trans ho) (by simp only [vp_in_iff]; decide) dL_addFile_9 ?_
    refine v_h (h2 := w (S_X11_addFile g a u) (vup r (91, 0) (vJ 1 (vp_updL o 0 ((V_X11_addFile g a u).toInt64))))) ((w_vup (by decide)).trans rfl) ?_
    refine v_goto (tgt := 25) (pc := 10) C dL_addFile_10 (by decide) ?_
    refine v_iconst (v := 0) (pc := 25) C dL_addFile_25 rfl ?_
    exact v_iret (pc := 26) C (Nat.le_of_eq (Nat.zero_add _)) (Nat.le_of_eq (Nat.zero_add _)) dL_addFile_26 ⟨by rw [x9]; rfl, hA9, by rw [if_pos x9]⟩
set_option maxHeartbeats 4000000 in
set_option maxRecDepth 100000 in
theorem c_L_write {G : vG} (hG : G.1.stackTraces = false) {A : vN → Nat} {g : vS} {r : vH} (u : Int32) (a : Int32) (x : Int32) (y : Int32) (hr : vNr r) (h8 : vI3 g) (hI : vI1 g) {o : Nat → Int64} (ho : r (91, 0) = some (vJ 1 o)) : vCtH G yL_write cL_write 7 (some .int) [(0, 14, 17, 21), (0, 14, 21, 13), (0, 14, 25, 43), (0, 14, 29, 15)] 6 [.ref (A (0, 0)), .int (u), .int (a), .int (x), .int (y), .ref (A (91, 0))] A (w g r) (fun v A2 h2 => v = some (.int (K_L_write (X_X11_write g u a x y))) ∧ vAs 32 32 A2 A ∧ h2 = w (S_X11_write g u a x y) (if X_X11_write g u a x y = 0 then vup r (91, 0) (vJ 1 (vp_updL o 0 ((V_X11_write g u a x y).toInt64))) else r)) 5 32 := by
  refine v_ofH hG (by decide +kernel) (Nat.le_of_ble_eq_true rfl) (lv := [(0, .ref (A (0, 0))), (1, .int (u)), (2, .int (a)), (3, .int (x)), (4, .int (y)), (5, .ref (A (91, 0)))]) rfl (fun X C ht => ?_)
  have C : vC G X cL_write 7 RL (some .int) "write" 6 5 32 := C
  refine v_aload (pc := 0) C dL_write_0 5 rfl ?_
  refine v_iconst (v := 0) (pc := 2) C dL_write_2 rfl ?_
  refine v_aload_n (pc := 3) C dL_write_3 0 rfl rfl ?_
  refine v_iload_n (pc := 4) C dL_write_4 1 rfl rfl ?_
  refine v_iload_n (pc := 5) C dL_write_5 2 rfl rfl ?_
  refine v_iload_n (pc := 6) C dL_write_6 3 rfl rfl ?_
  refine v_iload (pc := 7) C dL_write_7 4 rfl ?_
  refine v_callV (pc := 9) C (0, 0) ck_0 rfl (c_X11_write hG (g := g) u a x y hr h8 hI) 4 wd_744 wd_62 wd_741 wd_742 wd_743 (by decide +kernel) (by decide) (by decide) rfl ([.int 0, .ref (A (91, 0))]) rfl (Nat.le_of_ble_eq_true rfl) ⟨Nat.le_of_eq (Nat.zero_add _), Nat.le_of_eq (Nat.zero_add _)⟩ dL_write_9 (fun cls9 A_1 h9 hE9 => ?_) (fun v9 A_1 h9 hR9 => ?_)
  · obtain ⟨q9, rfl, hA9, rfl⟩ := hE9
    have e9 := E_X_X11_write (g := g) (u := u) (a := a) (x := x) (y := y)
    simp only [List.mem_cons, List.not_mem_nil, or_false] at e9
    rcases e9 with e9 | e9 | e9 | e9 | e9
    · exact absurd e9 q9
    · rw [show vEx (X_X11_write g u a x y) = "java/util/NoSuchElementException" from by rw [e9]; rfl]
      refine v_catch (name := "java/util/NoSuchElementException") C ht [] ⟨0, 14, 17, 21⟩ [⟨0, 14, 21, 13⟩, ⟨0, 14, 25, 43⟩, ⟨0, 14, 29, 15⟩] rfl (fun z hz => by cases hz) (by decide) (by decide) wd_505 cst_1 (fun q8 => ?_)
      refine v_astore (lv2 := [(6, .ref q8), (0, .ref (A (0, 0))), (1, .int (u)), (2, .int (a)), (3, .int (x)), (4, .int (y)), (5, .ref (A (91, 0)))]) (pc := 17) C dL_write_17 (by decide) rfl ?_
      refine v_iconst (v := 1) (pc := 19) C dL_write_19 rfl ?_
      exact v_iret (pc := 20) C (Nat.le_of_eq (Nat.zero_add _)) (Nat.le_of_eq (Nat.zero_add _)) dL_write_20 ⟨by rw [e9]; rfl, hA9, by rw [if_neg q9]⟩
    · rw [show vEx (X_X11_write g u a x y) = "java/lang/IllegalArgumentException" from by rw [e9]; rfl]
      refine v_catch (name := "java/lang/IllegalArgumentException") C ht [⟨0, 14, 17, 21⟩] ⟨0, 14, 21, 13⟩ [⟨0, 14, 25, 43⟩, ⟨0, 14, 29, 15⟩] rfl (fun z hz => by simp only [List.mem_cons, List.not_mem_nil, or_false] at hz; rcases hz with rfl <;> first | exact ⟨by decide, "java/util/NoSuchElementException", wd_505, ncs_2_1⟩) (by decide) (by decide) wd_353 cst_2 (fun q8 => ?_)
      refine v_astore (lv2 := [(6, .ref q8), (0, .ref (A (0, 0))), (1, .int (u)), (2, .int (a)), (3, .int (x)), (4, .int (y)), (5, .ref (A (91, 0)))]) (pc := 21) C dL_write_21 (by decide) rfl ?_
      refine v_iconst (v := 2) (pc := 23) C dL_write_23 rfl ?_
      exact v_iret (pc := 24) C (Nat.le_of_eq (Nat.zero_add _)) (Nat.le_of_eq (Nat.zero_add _)) dL_write_24 ⟨by rw [e9]; rfl, hA9, by rw [if_neg q9]⟩
    · rw [show vEx (X_X11_write g u a x y) = "java/lang/IllegalStateException" from by rw [e9]; rfl]
      refine v_catch (name := "java/lang/IllegalStateException") C ht [⟨0, 14, 17, 21⟩, ⟨0, 14, 21, 13⟩, ⟨0, 14, 25, 43⟩] ⟨0, 14, 29, 15⟩ [] rfl (fun z hz => by simp only [List.mem_cons, List.not_mem_nil, or_false] at hz; rcases hz with rfl | rfl | rfl <;> first | exact ⟨by decide, "java/util/NoSuchElementException", wd_505, ncs_3_1⟩ | exact ⟨by decide, "java/lang/IllegalArgumentException", wd_353, ncs_3_2⟩ | exact ⟨by decide, "java/lang/UnsupportedOperationException", wd_675, ncs_3_4⟩) (by decide) (by decide) wd_354 cst_3 (fun q8 => ?_)
      refine v_astore (lv2 := [(6, .ref q8), (0, .ref (A (0, 0))), (1, .int (u)), (2, .int (a)), (3, .int (x)), (4, .int (y)), (5, .ref (A (91, 0)))]) (pc := 29) C dL_write_29 (by decide) rfl ?_
      refine v_iconst (v := 4) (pc := 31) C dL_write_31 rfl ?_
      exact v_iret (pc := 32) C (Nat.le_of_eq (Nat.zero_add _)) (Nat.le_of_eq (Nat.zero_add _)) dL_write_32 ⟨by rw [e9]; rfl, hA9, by rw [if_neg q9]⟩
    · rw [show vEx (X_X11_write g u a x y) = "java/lang/UnsupportedOperationException" from by rw [e9]; rfl]
      refine v_catch (name := "java/lang/UnsupportedOperationException") C ht [⟨0, 14, 17, 21⟩, ⟨0, 14, 21, 13⟩] ⟨0, 14, 25, 43⟩ [⟨0, 14, 29, 15⟩] rfl (fun z hz => by simp only [List.mem_cons, List.not_mem_nil, or_false] at hz; rcases hz with rfl | rfl <;> first | exact ⟨by decide, "java/util/NoSuchElementException", wd_505, ncs_4_1⟩ | exact ⟨by decide, "java/lang/IllegalArgumentException", wd_353, ncs_4_2⟩) (by decide) (by decide) wd_675 cst_4 (fun q8 => ?_)
      refine v_astore (lv2 := [(6, .ref q8), (0, .ref (A (0, 0))), (1, .int (u)), (2, .int (a)), (3, .int (x)), (4, .int (y)), (5, .ref (A (91, 0)))]) (pc := 25) C dL_write_25 (by decide) rfl ?_
      refine v_iconst (v := 3) (pc := 27) C dL_write_27 rfl ?_
      exact v_iret (pc := 28) C (Nat.le_of_eq (Nat.zero_add _)) (Nat.le_of_eq (Nat.zero_add _)) dL_write_28 ⟨by rw [e9]; rfl, hA9, by rw [if_neg q9]⟩
  · obtain ⟨x9, rfl, hA9, rfl⟩ := hR9
    refine v_st (k2 := 0 + 5) (n2 := 0 + 32) (st2 := [.int (V_X11_write g u a x y), .int 0, .ref (A_1 (91, 0))]) rfl rfl (by rw [hA9 (91, 0) (Or.inr (Nat.le_of_ble_eq_true rfl))]; rfl) ?_
    refine v_i2l (pc := 12) C dL_write_12 rfl ?_
    refine v_last (pc := 13) C (91, 0) ((w_at (by decide)).trans ho) (by simp only [vp_in_iff]; decide) dL_write_13 ?_
    refine v_h (h2 := w (S_X11_write g u a x y) (vup r (91, 0) (vJ 1 (vp_updL o 0 ((V_X11_write g u a x y).toInt64))))) ((w_vup (by decide)).trans rfl) ?_
    refine v_goto (tgt := 33) (pc := 14) C dL_write_14 (by decide) ?_
    refine v_iconst (v := 0) (pc := 33) C dL_write_33 rfl ?_
    exact v_iret (pc := 34) C (Nat.le_of_eq (Nat.zero_add _)) (Nat.le_of_eq (Nat.zero_add _)) dL_write_34 ⟨by rw [x9]; rfl, hA9, by rw [if_pos x9]⟩
set_option maxHeartbeats 4000000 in
set_option maxRecDepth 100000 in
theorem c_L_read {G : vG} (hG : G.1.stackTraces = false) {A : vN → Nat} {g : vS} {r : vH} (u : Int32) (a : Int32) (x : Int32) (hI : vI1 g) {o : Nat → Int64} (ho : r (91, 0) = some (vJ 1 o)) : vCtH G yL_read cL_read 6 (some .int) [(0, 12, 15, 21), (0, 12, 19, 13), (0, 12, 23, 15), (0, 12, 27, 43)] 5 [.ref (A (0, 0)), .int (u), .int (a), .int (x), .ref (A (91, 0))] A (w g r) (fun v A2 h2 => v = some (.int (K_L_read (X_X11_read g u a x))) ∧ vAs 1 0 A2 A ∧ h2 = w g (if X_X11_read g u a x = 0 then vup r (91, 0) (vJ 1 (vp_updL o 0 ((V_X11_read g u a x).toInt64))) else r)) 6 36 := by
  refine v_ofH hG (by decide +kernel) (Nat.le_of_ble_eq_true rfl) (lv := [(0, .ref (A (0, 0))), (1, .int (u)), (2, .int (a)), (3, .int (x)), (4, .ref (A (91, 0)))]) rfl (fun X C ht => ?_)
  have C : vC G X cL_read 6 RL (some .int) "read" 5 6 36 := C
  refine v_aload (pc := 0) C dL_read_0 4 rfl ?_
  refine v_iconst (v := 0) (pc := 2) C dL_read_2 rfl ?_
  refine v_aload_n (pc := 3) C dL_read_3 0 rfl rfl ?_
  refine v_iload_n (pc := 4) C dL_read_4 1 rfl rfl ?_
  refine v_iload_n (pc := 5) C dL_read_5 2 rfl rfl ?_
  refine v_iload_n (pc := 6) C dL_read_6 3 rfl rfl ?_
  refine v_callV (pc := 7) C (0, 0) ck_0 rfl (c_X11_read hG (g := g) u a x hI) 3 wd_817 wd_62 wd_814 wd_815 wd_816 (by decide +kernel) (by decide) (by decide) rfl ([.int 0, .ref (A (91, 0))]) rfl (Nat.le_of_ble_eq_true rfl) ⟨Nat.le_of_eq (Nat.zero_add _), Nat.le_of_eq (Nat.zero_add _)⟩ dL_read_7 (fun cls9 A_1 h9 hE9 => ?_) (fun v9 A_1 h9 hR9 => ?_)
  · obtain ⟨q9, rfl, hA9, rfl⟩ := hE9
    have e9 := E_X_X11_read (g := g) (u := u) (a := a) (x := x)
    simp only [List.mem_cons, List.not_mem_nil, or_false] at e9
    rcases e9 with e9 | e9 | e9 | e9 | e9
    · exact absurd e9 q9
    · rw [show vEx (X_X11_read g u a x) = "java/util/NoSuchElementException" from by rw [e9]; rfl]
      refine v_catch (name := "java/util/NoSuchElementException") C ht [] ⟨0, 12, 15, 21⟩ [⟨0, 12, 19, 13⟩, ⟨0, 12, 23, 15⟩, ⟨0, 12, 27, 43⟩] rfl (fun z hz => by cases hz) (by decide) (by decide) wd_505 cst_1 (fun q8 => ?_)
      refine v_astore (lv2 := [(5, .ref q8), (0, .ref (A (0, 0))), (1, .int (u)), (2, .int (a)), (3, .int (x)), (4, .ref (A (91, 0)))]) (pc := 15) C dL_read_15 (by decide) rfl ?_
      refine v_iconst (v := 1) (pc := 17) C dL_read_17 rfl ?_
      exact v_iret (pc := 18) C (Nat.le_of_eq (Nat.zero_add _)) (Nat.le_of_eq (Nat.zero_add _)) dL_read_18 ⟨by rw [e9]; rfl, (hA9 ▸ vAs_r), by rw [if_neg q9]⟩
    · rw [show vEx (X_X11_read g u a x) = "java/lang/IllegalArgumentException" from by rw [e9]; rfl]
      refine v_catch (name := "java/lang/IllegalArgumentException") C ht [⟨0, 12, 15, 21⟩] ⟨0, 12, 19, 13⟩ [⟨0, 12, 23, 15⟩, ⟨0, 12, 27, 43⟩] rfl (fun z hz => by simp only [List.mem_cons, List.not_mem_nil, or_false] at hz; rcases hz with rfl <;> first | exact ⟨by decide, "java/util/NoSuchElementException", wd_505, ncs_2_1⟩) (by decide) (by decide) wd_353 cst_2 (fun q8 => ?_)
      refine v_astore (lv2 := [(5, .ref q8), (0, .ref (A (0, 0))), (1, .int (u)), (2, .int (a)), (3, .int (x)), (4, .ref (A (91, 0)))]) (pc := 19) C dL_read_19 (by decide) rfl ?_
      refine v_iconst (v := 2) (pc := 21) C dL_read_21 rfl ?_
      exact v_iret (pc := 22) C (Nat.le_of_eq (Nat.zero_add _)) (Nat.le_of_eq (Nat.zero_add _)) dL_read_22 ⟨by rw [e9]; rfl, (hA9 ▸ vAs_r), by rw [if_neg q9]⟩
    · rw [show vEx (X_X11_read g u a x) = "java/lang/IllegalStateException" from by rw [e9]; rfl]
      refine v_catch (name := "java/lang/IllegalStateException") C ht [⟨0, 12, 15, 21⟩, ⟨0, 12, 19, 13⟩] ⟨0, 12, 23, 15⟩ [⟨0, 12, 27, 43⟩] rfl (fun z hz => by simp only [List.mem_cons, List.not_mem_nil, or_false] at hz; rcases hz with rfl | rfl <;> first | exact ⟨by decide, "java/util/NoSuchElementException", wd_505, ncs_3_1⟩ | exact ⟨by decide, "java/lang/IllegalArgumentException", wd_353, ncs_3_2⟩) (by decide) (by decide) wd_354 cst_3 (fun q8 => ?_)
      refine v_astore (lv2 := [(5, .ref q8), (0, .ref (A (0, 0))), (1, .int (u)), (2, .int (a)), (3, .int (x)), (4, .ref (A (91, 0)))]) (pc := 23) C dL_read_23 (by decide) rfl ?_
      refine v_iconst (v := 3) (pc := 25) C dL_read_25 rfl ?_
      exact v_iret (pc := 26) C (Nat.le_of_eq (Nat.zero_add _)) (Nat.le_of_eq (Nat.zero_add _)) dL_read_26 ⟨by rw [e9]; rfl, (hA9 ▸ vAs_r), by rw [if_neg q9]⟩
    · rw [show vEx (X_X11_read g u a x) = "java/lang/UnsupportedOperationException" from by rw [e9]; rfl]
      refine v_catch (name := "java/lang/UnsupportedOperationException") C ht [⟨0, 12, 15, 21⟩, ⟨0, 12, 19, 13⟩, ⟨0, 12, 23, 15⟩] ⟨0, 12, 27, 43⟩ [] rfl (fun z hz => by simp only [List.mem_cons, List.not_mem_nil, or_false] at hz; rcases hz with rfl | rfl | rfl <;> first | exact ⟨by decide, "java/util/NoSuchElementException", wd_505, ncs_4_1⟩ | exact ⟨by decide, "java/lang/IllegalArgumentException", wd_353, ncs_4_2⟩ | exact ⟨by decide, "java/lang/IllegalStateException", wd_354, ncs_4_3⟩) (by decide) (by decide) wd_675 cst_4 (fun q8 => ?_)
      refine v_astore (lv2 := [(5, .ref q8), (0, .ref (A (0, 0))), (1, .int (u)), (2, .int (a)), (3, .int (x)), (4, .ref (A (91, 0)))]) (pc := 27) C dL_read_27 (by decide) rfl ?_
      refine v_iconst (v := 4) (pc := 29) C dL_read_29 rfl ?_
      exact v_iret (pc := 30) C (Nat.le_of_eq (Nat.zero_add _)) (Nat.le_of_eq (Nat.zero_add _)) dL_read_30 ⟨by rw [e9]; rfl, (hA9 ▸ vAs_r), by rw [if_neg q9]⟩
  · obtain ⟨x9, rfl, hA9, rfl⟩ := hR9
    refine v_st (k2 := 0 + 6) (n2 := 0 + 36) (st2 := [.int (V_X11_read g u a x), .int 0, .ref (A_1 (91, 0))]) rfl rfl (by rw [hA9]; rfl) ?_
    refine v_i2l (pc := 10) C dL_read_10 rfl ?_
    refine v_last (pc := 11) C (91, 0) ((w_at (by decide)).trans ho) (by simp only [vp_in_iff]; decide) dL_read_11 ?_
    refine v_h (h2 := w g (vup r (91, 0) (vJ 1 (vp_updL o 0 ((V_X11_read g u a x).toInt64))))) ((w_vup (by decide)).trans rfl) ?_
    refine v_goto (tgt := 31) (pc := 12) C dL_read_12 (by decide) ?_
    refine v_iconst (v := 0) (pc := 31) C dL_read_31 rfl ?_
    exact v_iret (pc := 32) C (Nat.le_of_eq (Nat.zero_add _)) (Nat.le_of_eq (Nat.zero_add _)) dL_read_32 ⟨by rw [x9]; rfl, (hA9 ▸ vAs_r), by rw [if_pos x9]⟩
set_option maxHeartbeats 4000000 in
set_option maxRecDepth 100000 in
theorem c_L_canRead {G : vG} (hG : G.1.stackTraces = false) {A : vN → Nat} {g : vS} {r : vH} (u : Int32) (a : Int32) (x : Int32) (hI : vI1 g) {o : Nat → Int64} (ho : r (91, 0) = some (vJ 1 o)) : vCtH G yL_canRead cL_canRead 6 (some .int) [(0, 19, 22, 21), (0, 19, 26, 13)] 4 [.ref (A (0, 0)), .int (u), .int (a), .int (x), .ref (A (91, 0))] A (w g r) (fun v A2 h2 => v = some (.int (K_L_canRead (X_X11_canRead g u a x))) ∧ vAs 1 0 A2 A ∧ h2 = w g (if X_X11_canRead g u a x = 0 then vup r (91, 0) (vJ 1 (vp_updL o 0 ((if (V_X11_canRead g u a x) = 0 then 0 else 1 : Int64)))) else r)) 5 30 := by
  refine v_ofH hG (by decide +kernel) (Nat.le_of_ble_eq_true rfl) (lv := [(0, .ref (A (0, 0))), (1, .int (u)), (2, .int (a)), (3, .int (x)), (4, .ref (A (91, 0)))]) rfl (fun X C ht => ?_)
  have C : vC G X cL_canRead 6 RL (some .int) "canRead" 4 5 30 := C
  refine v_aload (pc := 0) C dL_canRead_0 4 rfl ?_
  refine v_iconst (v := 0) (pc := 2) C dL_canRead_2 rfl ?_
  refine v_aload_n (pc := 3) C dL_canRead_3 0 rfl rfl ?_
  refine v_iload_n (pc := 4) C dL_canRead_4 1 rfl rfl ?_
  refine v_iload_n (pc := 5) C dL_canRead_5 2 rfl rfl ?_
  refine v_iload_n (pc := 6) C dL_canRead_6 3 rfl rfl ?_
  refine v_callV (pc := 7) C (0, 0) ck_0 rfl (c_X11_canRead hG (g := g) u a x hI) 3 wd_831 wd_62 wd_828 wd_829 wd_830 (by decide +kernel) (by decide) (by decide) rfl ([.int 0, .ref (A (91, 0))]) rfl (Nat.le_of_ble_eq_true rfl) ⟨Nat.le_of_eq (Nat.zero_add _), Nat.le_of_eq (Nat.zero_add _)⟩ dL_canRead_7 (fun cls9 A_1 h9 hE9 => ?_) (fun v9 A_1 h9 hR9 => ?_)
  · obtain ⟨q9, rfl, hA9, rfl⟩ := hE9
    have e9 := E_X_X11_canRead (g := g) (u := u) (a := a) (x := x)
    simp only [List.mem_cons, List.not_mem_nil, or_false] at e9
    rcases e9 with e9 | e9 | e9
    · exact absurd e9 q9
    · rw [show vEx (X_X11_canRead g u a x) = "java/util/NoSuchElementException" from by rw [e9]; rfl]
      refine v_catch (name := "java/util/NoSuchElementException") C ht [] ⟨0, 19, 22, 21⟩ [⟨0, 19, 26, 13⟩] rfl (fun z hz => by cases hz) (by decide) (by decide) wd_505 cst_1 (fun q8 => ?_)
      refine v_astore (lv2 := [(5, .ref q8), (0, .ref (A (0, 0))), (1, .int (u)), (2, .int (a)), (3, .int (x)), (4, .ref (A (91, 0)))]) (pc := 22) C dL_canRead_22 (by decide) rfl ?_
      refine v_iconst (v := 1) (pc := 24) C dL_canRead_24 rfl ?_
      exact v_iret (pc := 25) C (Nat.le_of_eq (Nat.zero_add _)) (Nat.le_of_eq (Nat.zero_add _)) dL_canRead_25 ⟨by rw [e9]; rfl, (hA9 ▸ vAs_r), by rw [if_neg q9]⟩
    · rw [show vEx (X_X11_canRead g u a x) = "java/lang/IllegalArgumentException" from by rw [e9]; rfl]
      refine v_catch (name := "java/lang/IllegalArgumentException") C ht [⟨0, 19, 22, 21⟩] ⟨0, 19, 26, 13⟩ [] rfl (fun z hz => by simp only [List.mem_cons, List.not_mem_nil, or_false] at hz; rcases hz with rfl <;> first | exact ⟨by decide, "java/util/NoSuchElementException", wd_505, ncs_2_1⟩) (by decide) (by decide) wd_353 cst_2 (fun q8 => ?_)
      refine v_astore (lv2 := [(5, .ref q8), (0, .ref (A (0, 0))), (1, .int (u)), (2, .int (a)), (3, .int (x)), (4, .ref (A (91, 0)))]) (pc := 26) C dL_canRead_26 (by decide) rfl ?_
      refine v_iconst (v := 2) (pc := 28) C dL_canRead_28 rfl ?_
      exact v_iret (pc := 29) C (Nat.le_of_eq (Nat.zero_add _)) (Nat.le_of_eq (Nat.zero_add _)) dL_canRead_29 ⟨by rw [e9]; rfl, (hA9 ▸ vAs_r), by rw [if_neg q9]⟩
  · obtain ⟨x9, rfl, hA9, rfl⟩ := hR9
    refine v_st (k2 := 0 + 5) (n2 := 0 + 30) (st2 := [.int (V_X11_canRead g u a x), .int 0, .ref (A_1 (91, 0))]) rfl rfl (by rw [hA9]; rfl) ?_
    refine v_if_eq (pc := 10) (tgt := 17) C dL_canRead_10 (by decide) (fun c9 => ?_) (fun c9 => ?_)
    · refine v_lconst (v := 0) (pc := 17) C dL_canRead_17 rfl ?_
      refine v_last (pc := 18) C (91, 0) ((w_at (by decide)).trans ho) (by simp only [vp_in_iff]; decide) dL_canRead_18 ?_
      refine v_h (h2 := w g (vup r (91, 0) (vJ 1 (vp_updL o 0 ((if (V_X11_canRead g u a x) = 0 then 0 else 1 : Int64)))))) ((w_vup (by decide)).trans (by rw [if_pos c9]; rfl)) ?_
      refine v_goto (tgt := 30) (pc := 19) C dL_canRead_19 (by decide) ?_
      refine v_iconst (v := 0) (pc := 30) C dL_canRead_30 rfl ?_
      exact v_iret (pc := 31) C (Nat.le_of_eq (Nat.zero_add _)) (Nat.le_of_eq (Nat.zero_add _)) dL_canRead_31 ⟨by rw [x9]; rfl, (hA9 ▸ vAs_r), by rw [if_pos x9]⟩
    · refine v_lconst (v := 1) (pc := 13) C dL_canRead_13 rfl ?_
      refine v_goto (tgt := 18) (pc := 14) C dL_canRead_14 (by decide) ?_
      refine v_last (pc := 18) C (91, 0) ((w_at (by decide)).trans ho) (by simp only [vp_in_iff]; decide) dL_canRead_18 ?_
      refine v_h (h2 := w g (vup r (91, 0) (vJ 1 (vp_updL o 0 ((if (V_X11_canRead g u a x) = 0 then 0 else 1 : Int64)))))) ((w_vup (by decide)).trans (by rw [if_neg c9]; rfl)) ?_
      refine v_goto (tgt := 30) (pc := 19) C dL_canRead_19 (by decide) ?_
      refine v_iconst (v := 0) (pc := 30) C dL_canRead_30 rfl ?_
      exact v_iret (pc := 31) C (Nat.le_of_eq (Nat.zero_add _)) (Nat.le_of_eq (Nat.zero_add _)) dL_canRead_31 ⟨by rw [x9]; rfl, (hA9 ▸ vAs_r), by rw [if_pos x9]⟩
set_option maxHeartbeats 4000000 in
set_option maxRecDepth 100000 in
theorem c_L_canReadByGrants {G : vG} (hG : G.1.stackTraces = false) {A : vN → Nat} {g : vS} {r : vH} (u : Int32) (a : Int32) (x : Int32) (hI : vI1 g) {o : Nat → Int64} (ho : r (91, 0) = some (vJ 1 o)) : vCtH G yL_canReadByGrants cL_canReadByGrants 6 (some .int) [(0, 19, 22, 21), (0, 19, 26, 13)] 3 [.ref (A (0, 0)), .int (u), .int (a), .int (x), .ref (A (91, 0))] A (w g r) (fun v A2 h2 => v = some (.int (K_L_canReadByGrants (X_X11_canReadByGrants g u a x))) ∧ vAs 1 0 A2 A ∧ h2 = w (S_X11_canReadByGrants g u a x) (if X_X11_canReadByGrants g u a x = 0 then vup r (91, 0) (vJ 1 (vp_updL o 0 ((if (V_X11_canReadByGrants g u a x) = 0 then 0 else 1 : Int64)))) else r)) 5 30 := by
  refine v_ofH hG (by decide +kernel) (Nat.le_of_ble_eq_true rfl) (lv := [(0, .ref (A (0, 0))), (1, .int (u)), (2, .int (a)), (3, .int (x)), (4, .ref (A (91, 0)))]) rfl (fun X C ht => ?_)
  have C : vC G X cL_canReadByGrants 6 RL (some .int) "canReadByGrants" 3 5 30 := C
  refine v_aload (pc := 0) C dL_canReadByGrants_0 4 rfl ?_
  refine v_iconst (v := 0) (pc := 2) C dL_canReadByGrants_2 rfl ?_
  refine v_aload_n (pc := 3) C dL_canReadByGrants_3 0 rfl rfl ?_
  refine v_iload_n (pc := 4) C dL_canReadByGrants_4 1 rfl rfl ?_
  refine v_iload_n (pc := 5) C dL_canReadByGrants_5 2 rfl rfl ?_
  refine v_iload_n (pc := 6) C dL_canReadByGrants_6 3 rfl rfl ?_
  refine v_callV (pc := 7) C (0, 0) ck_0 rfl (c_X11_canReadByGrants hG (g := g) u a x hI) 3 wd_838 wd_62 wd_835 wd_836 wd_837 (by decide +kernel) (by decide) (by decide) rfl ([.int 0, .ref (A (91, 0))]) rfl (Nat.le_of_ble_eq_true rfl) ⟨Nat.le_of_eq (Nat.zero_add _), Nat.le_of_eq (Nat.zero_add _)⟩ dL_canReadByGrants_7 (fun cls9 A_1 h9 hE9 => ?_) (fun v9 A_1 h9 hR9 => ?_)
  · obtain ⟨q9, rfl, hA9, rfl⟩ := hE9
    have e9 := E_X_X11_canReadByGrants (g := g) (u := u) (a := a) (x := x)
    simp only [List.mem_cons, List.not_mem_nil, or_false] at e9
    rcases e9 with e9 | e9 | e9
    · exact absurd e9 q9
    · rw [show vEx (X_X11_canReadByGrants g u a x) = "java/util/NoSuchElementException" from by rw [e9]; rfl]
      refine v_catch (name := "java/util/NoSuchElementException") C ht [] ⟨0, 19, 22, 21⟩ [⟨0, 19, 26, 13⟩] rfl (fun z hz => by cases hz) (by decide) (by decide) wd_505 cst_1 (fun q8 => ?_)
      refine v_astore (lv2 := [(5, .ref q8), (0, .ref (A (0, 0))), (1, .int (u)), (2, .int (a)), (3, .int (x)), (4, .ref (A (91, 0)))]) (pc := 22) C dL_canReadByGrants_22 (by decide) rfl ?_
      refine v_iconst (v := 1) (pc := 24) C dL_canReadByGrants_24 rfl ?_
      exact v_iret (pc := 25) C (Nat.le_of_eq (Nat.zero_add _)) (Nat.le_of_eq (Nat.zero_add _)) dL_canReadByGrants_25 ⟨by rw [e9]; rfl, (hA9 ▸ vAs_r), by rw [if_neg q9]⟩
    · rw [show vEx (X_X11_canReadByGrants g u a x) = "java/lang/IllegalArgumentException" from by rw [e9]; rfl]
      refine v_catch (name := "java/lang/IllegalArgumentException") C ht [⟨0, 19, 22, 21⟩] ⟨0, 19, 26, 13⟩ [] rfl (fun z hz => by simp only [List.mem_cons, List.not_mem_nil, or_false] at hz; rcases hz with rfl <;> first | exact ⟨by decide, "java/util/NoSuchElementException", wd_505, ncs_2_1⟩) (by decide) (by decide) wd_353 cst_2 (fun q8 => ?_)
      refine v_astore (lv2 := [(5, .ref q8), (0, .ref (A (0, 0))), (1, .int (u)), (2, .int (a)), (3, .int (x)), (4, .ref (A (91, 0)))]) (pc := 26) C dL_canReadByGrants_26 (by decide) rfl ?_
      refine v_iconst (v := 2) (pc := 28) C dL_canReadByGrants_28 rfl ?_
      exact v_iret (pc := 29) C (Nat.le_of_eq (Nat.zero_add _)) (Nat.le_of_eq (Nat.zero_add _)) dL_canReadByGrants_29 ⟨by rw [e9]; rfl, (hA9 ▸ vAs_r), by rw [if_neg q9]⟩
  · obtain ⟨x9, rfl, hA9, rfl⟩ := hR9
    refine v_st (k2 := 0 + 5) (n2 := 0 + 30) (st2 := [.int (V_X11_canReadByGrants g u a x), .int 0, .ref (A_1 (91, 0))]) rfl rfl (by rw [hA9]; rfl) ?_
    refine v_if_eq (pc := 10) (tgt := 17) C dL_canReadByGrants_10 (by decide) (fun c9 => ?_) (fun c9 => ?_)
    · refine v_lconst (v := 0) (pc := 17) C dL_canReadByGrants_17 rfl ?_
      refine v_last (pc := 18) C (91, 0) ((w_at (by decide)).trans ho) (by simp only [vp_in_iff]; decide) dL_canReadByGrants_18 ?_
      refine v_h (h2 := w (S_X11_canReadByGrants g u a x) (vup r (91, 0) (vJ 1 (vp_updL o 0 ((if (V_X11_canReadByGrants g u a x) = 0 then 0 else 1 : Int64)))))) ((w_vup (by decide)).trans (by rw [if_pos c9]; rfl)) ?_
      refine v_goto (tgt := 30) (pc := 19) C dL_canReadByGrants_19 (by decide) ?_
      refine v_iconst (v := 0) (pc := 30) C dL_canReadByGrants_30 rfl ?_
      exact v_iret (pc := 31) C (Nat.le_of_eq (Nat.zero_add _)) (Nat.le_of_eq (Nat.zero_add _)) dL_canReadByGrants_31 ⟨by rw [x9]; rfl, (hA9 ▸ vAs_r), by rw [if_pos x9]⟩
    · refine v_lconst (v := 1) (pc := 13) C dL_canReadByGrants_13 rfl ?_
      refine v_goto (tgt := 18) (pc := 14) C dL_canReadByGrants_14 (by decide) ?_
      refine v_last (pc := 18) C (91, 0) ((w_at (by decide)).trans ho) (by simp only [vp_in_iff]; decide) dL_canReadByGrants_18 ?_
      refine v_h (h2 := w (S_X11_canReadByGrants g u a x) (vup r (91, 0) (vJ 1 (vp_updL o 0 ((if (V_X11_canReadByGrants g u a x) = 0 then 0 else 1 : Int64)))))) ((w_vup (by decide)).trans (by rw [if_neg c9]; rfl)) ?_
      refine v_goto (tgt := 30) (pc := 19) C dL_canReadByGrants_19 (by decide) ?_
      refine v_iconst (v := 0) (pc := 30) C dL_canReadByGrants_30 rfl ?_
      exact v_iret (pc := 31) C (Nat.le_of_eq (Nat.zero_add _)) (Nat.le_of_eq (Nat.zero_add _)) dL_canReadByGrants_31 ⟨by rw [x9]; rfl, (hA9 ▸ vAs_r), by rw [if_pos x9]⟩
set_option maxHeartbeats 4000000 in
set_option maxRecDepth 100000 in
theorem c_L_cipher {G : vG} (hG : G.1.stackTraces = false) {A : vN → Nat} {g : vS} {r : vH} (a : Int32) (x : Int32) {o : Nat → Int64} (ho : r (91, 0) = some (vJ 1 o)) : vCtH G yL_cipher cL_cipher 5 (some .int) [(0, 10, 13, 21), (0, 10, 17, 13)] 3 [.ref (A (0, 0)), .int (a), .int (x), .ref (A (91, 0))] A (w g r) (fun v A2 h2 => v = some (.int (K_L_cipher (X_X11_cipher g a x))) ∧ vAs 1 0 A2 A ∧ h2 = w g (if X_X11_cipher g a x = 0 then vup r (91, 0) (vJ 1 (vp_updL o 0 ((V_X11_cipher g a x).toInt64))) else r)) 3 18 := by
  refine v_ofH hG (by decide +kernel) (Nat.le_of_ble_eq_true rfl) (lv := [(0, .ref (A (0, 0))), (1, .int (a)), (2, .int (x)), (3, .ref (A (91, 0)))]) rfl (fun X C ht => ?_)
  have C : vC G X cL_cipher 5 RL (some .int) "cipher" 3 3 18 := C
  refine v_aload_n (pc := 0) C dL_cipher_0 3 rfl rfl ?_
  refine v_iconst (v := 0) (pc := 1) C dL_cipher_1 rfl ?_
  refine v_aload_n (pc := 2) C dL_cipher_2 0 rfl rfl ?_
  refine v_iload_n (pc := 3) C dL_cipher_3 1 rfl rfl ?_
  refine v_iload_n (pc := 4) C dL_cipher_4 2 rfl rfl ?_
  refine v_callV (pc := 5) C (0, 0) ck_0 rfl (c_X11_cipher hG (g := g) a x ) 2 wd_845 wd_62 wd_842 wd_843 wd_844 (by decide +kernel) (by decide) (by decide) rfl ([.int 0, .ref (A (91, 0))]) rfl (Nat.le_of_ble_eq_true rfl) ⟨Nat.le_of_eq (Nat.zero_add _), Nat.le_of_eq (Nat.zero_add _)⟩ dL_cipher_5 (fun cls9 A_1 h9 hE9 => ?_) (fun v9 A_1 h9 hR9 => ?_)
  · obtain ⟨q9, rfl, hA9, rfl⟩ := hE9
    have e9 := E_X_X11_cipher (g := g) (a := a) (x := x)
    simp only [List.mem_cons, List.not_mem_nil, or_false] at e9
    rcases e9 with e9 | e9 | e9
    · exact absurd e9 q9
    · rw [show vEx (X_X11_cipher g a x) = "java/util/NoSuchElementException" from by rw [e9]; rfl]
      refine v_catch (name := "java/util/NoSuchElementException") C ht [] ⟨0, 10, 13, 21⟩ [⟨0, 10, 17, 13⟩] rfl (fun z hz => by cases hz) (by decide) (by decide) wd_505 cst_1 (fun q8 => ?_)
      refine v_astore (lv2 := [(4, .ref q8), (0, .ref (A (0, 0))), (1, .int (a)), (2, .int (x)), (3, .ref (A (91, 0)))]) (pc := 13) C dL_cipher_13 (by decide) rfl ?_
      refine v_iconst (v := 1) (pc := 15) C dL_cipher_15 rfl ?_
      exact v_iret (pc := 16) C (Nat.le_of_eq (Nat.zero_add _)) (Nat.le_of_eq (Nat.zero_add _)) dL_cipher_16 ⟨by rw [e9]; rfl, (hA9 ▸ vAs_r), by rw [if_neg q9]⟩
    · rw [show vEx (X_X11_cipher g a x) = "java/lang/IllegalArgumentException" from by rw [e9]; rfl]
      refine v_catch (name := "java/lang/IllegalArgumentException") C ht [⟨0, 10, 13, 21⟩] ⟨0, 10, 17, 13⟩ [] rfl (fun z hz => by simp only [List.mem_cons, List.not_mem_nil, or_false] at hz; rcases hz with rfl <;> first | exact ⟨by decide, "java/util/NoSuchElementException", wd_505, ncs_2_1⟩) (by decide) (by decide) wd_353 cst_2 (fun q8 => ?_)
      refine v_astore (lv2 := [(4, .ref q8), (0, .ref (A (0, 0))), (1, .int (a)), (2, .int (x)), (3, .ref (A (91, 0)))]) (pc := 17) C dL_cipher_17 (by decide) rfl ?_
      refine v_iconst (v := 2) (pc := 19) C dL_cipher_19 rfl ?_
      exact v_iret (pc := 20) C (Nat.le_of_eq (Nat.zero_add _)) (Nat.le_of_eq (Nat.zero_add _)) dL_cipher_20 ⟨by rw [e9]; rfl, (hA9 ▸ vAs_r), by rw [if_neg q9]⟩
  · obtain ⟨x9, rfl, hA9, rfl⟩ := hR9
    refine v_st (k2 := 0 + 3) (n2 := 0 + 18) (st2 := [.int (V_X11_cipher g a x), .int 0, .ref (A_1 (91, 0))]) rfl rfl (by rw [hA9]; rfl) ?_
    refine v_i2l (pc := 8) C dL_cipher_8 rfl ?_
    refine v_last (pc := 9) C (91, 0) ((w_at (by decide)).trans ho) (by simp only [vp_in_iff]; decide) dL_cipher_9 ?_
    refine v_h (h2 := w g (vup r (91, 0) (vJ 1 (vp_updL o 0 ((V_X11_cipher g a x).toInt64))))) ((w_vup (by decide)).trans rfl) ?_
    refine v_goto (tgt := 21) (pc := 10) C dL_cipher_10 (by decide) ?_
    refine v_iconst (v := 0) (pc := 21) C dL_cipher_21 rfl ?_
    exact v_iret (pc := 22) C (Nat.le_of_eq (Nat.zero_add _)) (Nat.le_of_eq (Nat.zero_add _)) dL_cipher_22 ⟨by rw [x9]; rfl, (hA9 ▸ vAs_r), by rw [if_pos x9]⟩
set_option maxHeartbeats 4000000 in
set_option maxRecDepth 100000 in
theorem c_L_version {G : vG} (hG : G.1.stackTraces = false) {A : vN → Nat} {g : vS} {r : vH} (a : Int32) (x : Int32) {o : Nat → Int64} (ho : r (91, 0) = some (vJ 1 o)) : vCtH G yL_version cL_version 5 (some .int) [(0, 10, 13, 21), (0, 10, 17, 13)] 3 [.ref (A (0, 0)), .int (a), .int (x), .ref (A (91, 0))] A (w g r) (fun v A2 h2 => v = some (.int (K_L_version (X_X11_version g a x))) ∧ vAs 1 0 A2 A ∧ h2 = w g (if X_X11_version g a x = 0 then vup r (91, 0) (vJ 1 (vp_updL o 0 ((V_X11_version g a x).toInt64))) else r)) 3 18 := by
  refine v_ofH hG (by decide +kernel) (Nat.le_of_ble_eq_true rfl) (lv := [(0, .ref (A (0, 0))), (1, .int (a)), (2, .int (x)), (3, .ref (A (91, 0)))]) rfl (fun X C ht => ?_)
  have C : vC G X cL_version 5 RL (some .int) "version" 3 3 18 := C
  refine v_aload_n (pc := 0) C dL_version_0 3 rfl rfl ?_
  refine v_iconst (v := 0) (pc := 1) C dL_version_1 rfl ?_
  refine v_aload_n (pc := 2) C dL_version_2 0 rfl rfl ?_
  refine v_iload_n (pc := 3) C dL_version_3 1 rfl rfl ?_
  refine v_iload_n (pc := 4) C dL_version_4 2 rfl rfl ?_
  refine v_callV (pc := 5) C (0, 0) ck_0 rfl (c_X11_version hG (g := g) a x ) 2 wd_852 wd_62 wd_849 wd_850 wd_851 (by decide +kernel) (by decide) (by decide) rfl ([.int 0, .ref (A (91, 0))]) rfl (Nat.le_of_ble_eq_true rfl) ⟨Nat.le_of_eq (Nat.zero_add _), Nat.le_of_eq (Nat.zero_add _)⟩ dL_version_5 (fun cls9 A_1 h9 hE9 => ?_) (fun v9 A_1 h9 hR9 => ?_)
  · obtain ⟨q9, rfl, hA9, rfl⟩ := hE9
    have e9 := E_X_X11_version (g := g) (a := a) (x := x)
    simp only [List.mem_cons, List.not_mem_nil, or_false] at e9
    rcases e9 with e9 | e9 | e9
    · exact absurd e9 q9
    · rw [show vEx (X_X11_version g a x) = "java/util/NoSuchElementException" from by rw [e9]; rfl]
      refine v_catch (name := "java/util/NoSuchElementException") C ht [] ⟨0, 10, 13, 21⟩ [⟨0, 10, 17, 13⟩] rfl (fun z hz => by cases hz) (by decide) (by decide) wd_505 cst_1 (fun q8 => ?_)
      refine v_astore (lv2 := [(4, .ref q8), (0, .ref (A (0, 0))), (1, .int (a)), (2, .int (x)), (3, .ref (A (91, 0)))]) (pc := 13) C dL_version_13 (by decide) rfl ?_
      refine v_iconst (v := 1) (pc := 15) C dL_version_15 rfl ?_
      exact v_iret (pc := 16) C (Nat.le_of_eq (Nat.zero_add _)) (Nat.le_of_eq (Nat.zero_add _)) dL_version_16 ⟨by rw [e9]; rfl, (hA9 ▸ vAs_r), by rw [if_neg q9]⟩
    · rw [show vEx (X_X11_version g a x) = "java/lang/IllegalArgumentException" from by rw [e9]; rfl]
      refine v_catch (name := "java/lang/IllegalArgumentException") C ht [⟨0, 10, 13, 21⟩] ⟨0, 10, 17, 13⟩ [] rfl (fun z hz => by simp only [List.mem_cons, List.not_mem_nil, or_false] at hz; rcases hz with rfl <;> first | exact ⟨by decide, "java/util/NoSuchElementException", wd_505, ncs_2_1⟩) (by decide) (by decide) wd_353 cst_2 (fun q8 => ?_)
      refine v_astore (lv2 := [(4, .ref q8), (0, .ref (A (0, 0))), (1, .int (a)), (2, .int (x)), (3, .ref (A (91, 0)))]) (pc := 17) C dL_version_17 (by decide) rfl ?_
      refine v_iconst (v := 2) (pc := 19) C dL_version_19 rfl ?_
      exact v_iret (pc := 20) C (Nat.le_of_eq (Nat.zero_add _)) (Nat.le_of_eq (Nat.zero_add _)) dL_version_20 ⟨by rw [e9]; rfl, (hA9 ▸ vAs_r), by rw [if_neg q9]⟩
  · obtain ⟨x9, rfl, hA9, rfl⟩ := hR9
    refine v_st (k2 := 0 + 3) (n2 := 0 + 18) (st2 := [.int (V_X11_version g a x), .int 0, .ref (A_1 (91, 0))]) rfl rfl (by rw [hA9]; rfl) ?_
    refine v_i2l (pc := 8) C dL_version_8 rfl ?_
    refine v_last (pc := 9) C (91, 0) ((w_at (by decide)).trans ho) (by simp only [vp_in_iff]; decide) dL_version_9 ?_
    refine v_h (h2 := w g (vup r (91, 0) (vJ 1 (vp_updL o 0 ((V_X11_version g a x).toInt64))))) ((w_vup (by decide)).trans rfl) ?_
    refine v_goto (tgt := 21) (pc := 10) C dL_version_10 (by decide) ?_
    refine v_iconst (v := 0) (pc := 21) C dL_version_21 rfl ?_
    exact v_iret (pc := 22) C (Nat.le_of_eq (Nat.zero_add _)) (Nat.le_of_eq (Nat.zero_add _)) dL_version_22 ⟨by rw [x9]; rfl, (hA9 ▸ vAs_r), by rw [if_pos x9]⟩
set_option maxHeartbeats 4000000 in
set_option maxRecDepth 100000 in
theorem c_L_writes {G : vG} (hG : G.1.stackTraces = false) {A : vN → Nat} {g : vS} {r : vH} (a : Int32) (x : Int32) {o : Nat → Int64} (ho : r (91, 0) = some (vJ 1 o)) : vCtH G yL_writes cL_writes 5 (some .int) [(0, 10, 13, 21), (0, 10, 17, 13)] 3 [.ref (A (0, 0)), .int (a), .int (x), .ref (A (91, 0))] A (w g r) (fun v A2 h2 => v = some (.int (K_L_writes (X_X11_writes g a x))) ∧ vAs 1 0 A2 A ∧ h2 = w g (if X_X11_writes g a x = 0 then vup r (91, 0) (vJ 1 (vp_updL o 0 ((V_X11_writes g a x).toInt64))) else r)) 2 12 := by
  refine v_ofH hG (by decide +kernel) (Nat.le_of_ble_eq_true rfl) (lv := [(0, .ref (A (0, 0))), (1, .int (a)), (2, .int (x)), (3, .ref (A (91, 0)))]) rfl (fun X C ht => ?_)
  have C : vC G X cL_writes 5 RL (some .int) "writes" 3 2 12 := C
  refine v_aload_n (pc := 0) C dL_writes_0 3 rfl rfl ?_
  refine v_iconst (v := 0) (pc := 1) C dL_writes_1 rfl ?_
  refine v_aload_n (pc := 2) C dL_writes_2 0 rfl rfl ?_
  refine v_iload_n (pc := 3) C dL_writes_3 1 rfl rfl ?_
  refine v_iload_n (pc := 4) C dL_writes_4 2 rfl rfl ?_
  refine v_callV (pc := 5) C (0, 0) ck_0 rfl (c_X11_writes hG (g := g) a x ) 2 wd_859 wd_62 wd_856 wd_857 wd_858 (by decide +kernel) (by decide) (by decide) rfl ([.int 0, .ref (A (91, 0))]) rfl (Nat.le_of_ble_eq_true rfl) ⟨Nat.le_of_eq (Nat.zero_add _), Nat.le_of_eq (Nat.zero_add _)⟩ dL_writes_5 (fun cls9 A_1 h9 hE9 => ?_) (fun v9 A_1 h9 hR9 => ?_)
  · obtain ⟨q9, rfl, hA9, rfl⟩ := hE9
    have e9 := E_X_X11_writes (g := g) (a := a) (x := x)
    simp only [List.mem_cons, List.not_mem_nil, or_false] at e9
    rcases e9 with e9 | e9 | e9
    · exact absurd e9 q9
    · rw [show vEx (X_X11_writes g a x) = "java/util/NoSuchElementException" from by rw [e9]; rfl]
      refine v_catch (name := "java/util/NoSuchElementException") C ht [] ⟨0, 10, 13, 21⟩ [⟨0, 10, 17, 13⟩] rfl (fun z hz => by cases hz) (by decide) (by decide) wd_505 cst_1 (fun q8 => ?_)
      refine v_astore (lv2 := [(4, .ref q8), (0, .ref (A (0, 0))), (1, .int (a)), (2, .int (x)), (3, .ref (A (91, 0)))]) (pc := 13) C dL_writes_13 (by decide) rfl ?_
      refine v_iconst (v := 1) (pc := 15) C dL_writes_15 rfl ?_
      exact v_iret (pc := 16) C (Nat.le_of_eq (Nat.zero_add _)) (Nat.le_of_eq (Nat.zero_add _)) dL_writes_16 ⟨by rw [e9]; rfl, (hA9 ▸ vAs_r), by rw [if_neg q9]⟩
    · rw [show vEx (X_X11_writes g a x) = "java/lang/IllegalArgumentException" from by rw [e9]; rfl]
      refine v_catch (name := "java/lang/IllegalArgumentException") C ht [⟨0, 10, 13, 21⟩] ⟨0, 10, 17, 13⟩ [] rfl (fun z hz => by simp only [List.mem_cons, List.not_mem_nil, or_false] at hz; rcases hz with rfl <;> first | exact ⟨by decide, "java/util/NoSuchElementException", wd_505, ncs_2_1⟩) (by decide) (by decide) wd_353 cst_2 (fun q8 => ?_)
      refine v_astore (lv2 := [(4, .ref q8), (0, .ref (A (0, 0))), (1, .int (a)), (2, .int (x)), (3, .ref (A (91, 0)))]) (pc := 17) C dL_writes_17 (by decide) rfl ?_
      refine v_iconst (v := 2) (pc := 19) C dL_writes_19 rfl ?_
      exact v_iret (pc := 20) C (Nat.le_of_eq (Nat.zero_add _)) (Nat.le_of_eq (Nat.zero_add _)) dL_writes_20 ⟨by rw [e9]; rfl, (hA9 ▸ vAs_r), by rw [if_neg q9]⟩
  · obtain ⟨x9, rfl, hA9, rfl⟩ := hR9
    refine v_st (k2 := 0 + 2) (n2 := 0 + 12) (st2 := [.int (V_X11_writes g a x), .int 0, .ref (A_1 (91, 0))]) rfl rfl (by rw [hA9]; rfl) ?_
    refine v_i2l (pc := 8) C dL_writes_8 rfl ?_
    refine v_last (pc := 9) C (91, 0) ((w_at (by decide)).trans ho) (by simp only [vp_in_iff]; decide) dL_writes_9 ?_
    refine v_h (h2 := w g (vup r (91, 0) (vJ 1 (vp_updL o 0 ((V_X11_writes g a x).toInt64))))) ((w_vup (by decide)).trans rfl) ?_
    refine v_goto (tgt := 21) (pc := 10) C dL_writes_10 (by decide) ?_
    refine v_iconst (v := 0) (pc := 21) C dL_writes_21 rfl ?_
    exact v_iret (pc := 22) C (Nat.le_of_eq (Nat.zero_add _)) (Nat.le_of_eq (Nat.zero_add _)) dL_writes_22 ⟨by rw [x9]; rfl, (hA9 ▸ vAs_r), by rw [if_pos x9]⟩
set_option maxHeartbeats 4000000 in
set_option maxRecDepth 100000 in
theorem c_L_mark {G : vG} (hG : G.1.stackTraces = false) {A : vN → Nat} {g : vS} {r : vH} (a : Int32) {o : Nat → Int64} (ho : r (91, 0) = some (vJ 1 o)) : vCtH G yL_mark cL_mark 4 (some .int) [(0, 9, 12, 21)] 2 [.ref (A (0, 0)), .int (a), .ref (A (91, 0))] A (w g r) (fun v A2 h2 => v = some (.int (K_L_mark (X_X11_mark g a))) ∧ vAs 1 0 A2 A ∧ h2 = w g (if X_X11_mark g a = 0 then vup r (91, 0) (vJ 1 (vp_updL o 0 ((V_X11_mark g a).toInt64))) else r)) 1 6 := by
  refine v_ofH hG (by decide +kernel) (Nat.le_of_ble_eq_true rfl) (lv := [(0, .ref (A (0, 0))), (1, .int (a)), (2, .ref (A (91, 0)))]) rfl (fun X C ht => ?_)
  have C : vC G X cL_mark 4 RL (some .int) "mark" 2 1 6 := C
  refine v_aload_n (pc := 0) C dL_mark_0 2 rfl rfl ?_
  refine v_iconst (v := 0) (pc := 1) C dL_mark_1 rfl ?_
  refine v_aload_n (pc := 2) C dL_mark_2 0 rfl rfl ?_
  refine v_iload_n (pc := 3) C dL_mark_3 1 rfl rfl ?_
  refine v_callV (pc := 4) C (0, 0) ck_0 rfl (c_X11_mark hG (g := g) a ) 1 wd_871 wd_62 wd_868 wd_869 wd_870 (by decide +kernel) (by decide) (by decide) rfl ([.int 0, .ref (A (91, 0))]) rfl (Nat.le_of_ble_eq_true rfl) ⟨Nat.le_of_eq (Nat.zero_add _), Nat.le_of_eq (Nat.zero_add _)⟩ dL_mark_4 (fun cls9 A_1 h9 hE9 => ?_) (fun v9 A_1 h9 hR9 => ?_)
  · obtain ⟨q9, rfl, hA9, rfl⟩ := hE9
    have e9 := E_X_X11_mark (g := g) (a := a)
    simp only [List.mem_cons, List.not_mem_nil, or_false] at e9
    rcases e9 with e9 | e9
    · exact absurd e9 q9
    · rw [show vEx (X_X11_mark g a) = "java/util/NoSuchElementException" from by rw [e9]; rfl]
      refine v_catch (name := "java/util/NoSuchElementException") C ht [] ⟨0, 9, 12, 21⟩ [] rfl (fun z hz => by cases hz) (by decide) (by decide) wd_505 cst_1 (fun q8 => ?_)
      refine v_astore_n (lv2 := [(3, .ref q8), (0, .ref (A (0, 0))), (1, .int (a)), (2, .ref (A (91, 0)))]) (pc := 12) C dL_mark_12 rfl (by decide) rfl ?_
      refine v_iconst (v := 1) (pc := 13) C dL_mark_13 rfl ?_
      exact v_iret (pc := 14) C (Nat.le_of_eq (Nat.zero_add _)) (Nat.le_of_eq (Nat.zero_add _)) dL_mark_14 ⟨by rw [e9]; rfl, (hA9 ▸ vAs_r), by rw [if_neg q9]⟩
  · obtain ⟨x9, rfl, hA9, rfl⟩ := hR9
    refine v_st (k2 := 0 + 1) (n2 := 0 + 6) (st2 := [.int (V_X11_mark g a), .int 0, .ref (A_1 (91, 0))]) rfl rfl (by rw [hA9]; rfl) ?_
    refine v_i2l (pc := 7) C dL_mark_7 rfl ?_
    refine v_last (pc := 8) C (91, 0) ((w_at (by decide)).trans ho) (by simp only [vp_in_iff]; decide) dL_mark_8 ?_
    refine v_h (h2 := w g (vup r (91, 0) (vJ 1 (vp_updL o 0 ((V_X11_mark g a).toInt64))))) ((w_vup (by decide)).trans rfl) ?_
    refine v_goto (tgt := 15) (pc := 9) C dL_mark_9 (by decide) ?_
    refine v_iconst (v := 0) (pc := 15) C dL_mark_15 rfl ?_
    exact v_iret (pc := 16) C (Nat.le_of_eq (Nat.zero_add _)) (Nat.le_of_eq (Nat.zero_add _)) dL_mark_16 ⟨by rw [x9]; rfl, (hA9 ▸ vAs_r), by rw [if_pos x9]⟩
set_option maxHeartbeats 4000000 in
set_option maxRecDepth 100000 in
theorem c_L_spoil {G : vG} (hG : G.1.stackTraces = false) {A : vN → Nat} {g : vS} {r : vH} (a : Int32) (x : Int32) (b : Int32) {o : Nat → Int64} (ho : r (91, 0) = some (vJ 1 o)) : vCtH G yL_spoil cL_spoil 6 (some .int) [(0, 12, 15, 21), (0, 12, 19, 13)] 3 [.ref (A (0, 0)), .int (a), .int (x), .int (b), .ref (A (91, 0))] A (w g r) (fun v A2 h2 => v = some (.int (K_L_spoil (X_X11_spoil g a x b))) ∧ vAs 1 0 A2 A ∧ h2 = w (S_X11_spoil g a x b) (if X_X11_spoil g a x b = 0 then vup r (91, 0) (vJ 1 (vp_updL o 0 ((V_X11_spoil g a x b).toInt64))) else r)) 3 18 := by
  refine v_ofH hG (by decide +kernel) (Nat.le_of_ble_eq_true rfl) (lv := [(0, .ref (A (0, 0))), (1, .int (a)), (2, .int (x)), (3, .int (b)), (4, .ref (A (91, 0)))]) rfl (fun X C ht => ?_)
  have C : vC G X cL_spoil 6 RL (some .int) "spoil" 3 3 18 := C
  refine v_aload (pc := 0) C dL_spoil_0 4 rfl ?_
  refine v_iconst (v := 0) (pc := 2) C dL_spoil_2 rfl ?_
  refine v_aload_n (pc := 3) C dL_spoil_3 0 rfl rfl ?_
  refine v_iload_n (pc := 4) C dL_spoil_4 1 rfl rfl ?_
  refine v_iload_n (pc := 5) C dL_spoil_5 2 rfl rfl ?_
  refine v_iload_n (pc := 6) C dL_spoil_6 3 rfl rfl ?_
  refine v_callV (pc := 7) C (0, 0) ck_0 rfl (c_X11_spoil hG (g := g) a x b ) 3 wd_878 wd_62 wd_875 wd_876 wd_877 (by decide +kernel) (by decide) (by decide) rfl ([.int 0, .ref (A (91, 0))]) rfl (Nat.le_of_ble_eq_true rfl) ⟨Nat.le_of_eq (Nat.zero_add _), Nat.le_of_eq (Nat.zero_add _)⟩ dL_spoil_7 (fun cls9 A_1 h9 hE9 => ?_) (fun v9 A_1 h9 hR9 => ?_)
  · obtain ⟨q9, rfl, hA9, rfl⟩ := hE9
    have e9 := E_X_X11_spoil (g := g) (a := a) (x := x) (b := b)
    simp only [List.mem_cons, List.not_mem_nil, or_false] at e9
    rcases e9 with e9 | e9 | e9
    · exact absurd e9 q9
    · rw [show vEx (X_X11_spoil g a x b) = "java/util/NoSuchElementException" from by rw [e9]; rfl]
      refine v_catch (name := "java/util/NoSuchElementException") C ht [] ⟨0, 12, 15, 21⟩ [⟨0, 12, 19, 13⟩] rfl (fun z hz => by cases hz) (by decide) (by decide) wd_505 cst_1 (fun q8 => ?_)
      refine v_astore (lv2 := [(5, .ref q8), (0, .ref (A (0, 0))), (1, .int (a)), (2, .int (x)), (3, .int (b)), (4, .ref (A (91, 0)))]) (pc := 15) C dL_spoil_15 (by decide) rfl ?_
      refine v_iconst (v := 1) (pc := 17) C dL_spoil_17 rfl ?_
      exact v_iret (pc := 18) C (Nat.le_of_eq (Nat.zero_add _)) (Nat.le_of_eq (Nat.zero_add _)) dL_spoil_18 ⟨by rw [e9]; rfl, (hA9 ▸ vAs_r), by rw [if_neg q9]⟩
    · rw [show vEx (X_X11_spoil g a x b) = "java/lang/IllegalArgumentException" from by rw [e9]; rfl]
      refine v_catch (name := "java/lang/IllegalArgumentException") C ht [⟨0, 12, 15, 21⟩] ⟨0, 12, 19, 13⟩ [] rfl (fun z hz => by simp only [List.mem_cons, List.not_mem_nil, or_false] at hz; rcases hz with rfl <;> first | exact ⟨by decide, "java/util/NoSuchElementException", wd_505, ncs_2_1⟩) (by decide) (by decide) wd_353 cst_2 (fun q8 => ?_)
      refine v_astore (lv2 := [(5, .ref q8), (0, .ref (A (0, 0))), (1, .int (a)), (2, .int (x)), (3, .int (b)), (4, .ref (A (91, 0)))]) (pc := 19) C dL_spoil_19 (by decide) rfl ?_
      refine v_iconst (v := 2) (pc := 21) C dL_spoil_21 rfl ?_
      exact v_iret (pc := 22) C (Nat.le_of_eq (Nat.zero_add _)) (Nat.le_of_eq (Nat.zero_add _)) dL_spoil_22 ⟨by rw [e9]; rfl, (hA9 ▸ vAs_r), by rw [if_neg q9]⟩
  · obtain ⟨x9, rfl, hA9, rfl⟩ := hR9
    refine v_st (k2 := 0 + 3) (n2 := 0 + 18) (st2 := [.int (V_X11_spoil g a x b), .int 0, .ref (A_1 (91, 0))]) rfl rfl (by rw [hA9]; rfl) ?_
    refine v_i2l (pc := 10) C dL_spoil_10 rfl ?_
    refine v_last (pc := 11) C (91, 0) ((w_at (by decide)).trans ho) (by simp only [vp_in_iff]; decide) dL_spoil_11 ?_
    refine v_h (h2 := w (S_X11_spoil g a x b) (vup r (91, 0) (vJ 1 (vp_updL o 0 ((V_X11_spoil g a x b).toInt64))))) ((w_vup (by decide)).trans rfl) ?_
    refine v_goto (tgt := 23) (pc := 12) C dL_spoil_12 (by decide) ?_
    refine v_iconst (v := 0) (pc := 23) C dL_spoil_23 rfl ?_
    exact v_iret (pc := 24) C (Nat.le_of_eq (Nat.zero_add _)) (Nat.le_of_eq (Nat.zero_add _)) dL_spoil_24 ⟨by rw [x9]; rfl, (hA9 ▸ vAs_r), by rw [if_pos x9]⟩
set_option maxHeartbeats 4000000 in
set_option maxRecDepth 100000 in
theorem c_L_status {G : vG} (hG : G.1.stackTraces = false) {A : vN → Nat} {g : vS} {r : vH} (a : Int32) {o : Nat → Int64} (ho : r (91, 0) = some (vJ 1 o)) : vCtH G yL_status cL_status 4 (some .int) [(0, 9, 12, 21)] 5 [.ref (A (0, 0)), .int (a), .ref (A (91, 0))] A (w g r) (fun v A2 h2 => v = some (.int (K_L_status (X_X11_status g a))) ∧ vAs 1 0 A2 A ∧ h2 = w g (if X_X11_status g a = 0 then vup r (91, 0) (vJ 1 (vp_updL o 0 ((V_X11_status g a).toInt64))) else r)) 1 6 := by
  refine v_ofH hG (by decide +kernel) (Nat.le_of_ble_eq_true rfl) (lv := [(0, .ref (A (0, 0))), (1, .int (a)), (2, .ref (A (91, 0)))]) rfl (fun X C ht => ?_)
  have C : vC G X cL_status 4 RL (some .int) "status" 5 1 6 := C
  refine v_aload_n (pc := 0) C dL_status_0 2 rfl rfl ?_
  refine v_iconst (v := 0) (pc := 1) C dL_status_1 rfl ?_
  refine v_aload_n (pc := 2) C dL_status_2 0 rfl rfl ?_
  refine v_iload_n (pc := 3) C dL_status_3 1 rfl rfl ?_
  refine v_callV (pc := 4) C (0, 0) ck_0 rfl (c_X11_status hG (g := g) a ) 1 wd_885 wd_62 wd_882 wd_883 wd_884 (by decide +kernel) (by decide) (by decide) rfl ([.int 0, .ref (A (91, 0))]) rfl (Nat.le_of_ble_eq_true rfl) ⟨Nat.le_of_eq (Nat.zero_add _), Nat.le_of_eq (Nat.zero_add _)⟩ dL_status_4 (fun cls9 A_1 h9 hE9 => ?_) (fun v9 A_1 h9 hR9 => ?_)
  · obtain ⟨q9, rfl, hA9, rfl⟩ := hE9
    have e9 := E_X_X11_status (g := g) (a := a)
    simp only [List.mem_cons, List.not_mem_nil, or_false] at e9
    rcases e9 with e9 | e9
    · exact absurd e9 q9
    · rw [show vEx (X_X11_status g a) = "java/util/NoSuchElementException" from by rw [e9]; rfl]
      refine v_catch (name := "java/util/NoSuchElementException") C ht [] ⟨0, 9, 12, 21⟩ [] rfl (fun z hz => by cases hz) (by decide) (by decide) wd_505 cst_1 (fun q8 => ?_)
      refine v_astore_n (lv2 := [(3, .ref q8), (0, .ref (A (0, 0))), (1, .int (a)), (2, .ref (A (91, 0)))]) (pc := 12) C dL_status_12 rfl (by decide) rfl ?_
      refine v_iconst (v := 1) (pc := 13) C dL_status_13 rfl ?_
      exact v_iret (pc := 14) C (Nat.le_of_eq (Nat.zero_add _)) (Nat.le_of_eq (Nat.zero_add _)) dL_status_14 ⟨by rw [e9]; rfl, (hA9 ▸ vAs_r), by rw [if_neg q9]⟩
  · obtain ⟨x9, rfl, hA9, rfl⟩ := hR9
    refine v_st (k2 := 0 + 1) (n2 := 0 + 6) (st2 := [.int (V_X11_status g a), .int 0, .ref (A_1 (91, 0))]) rfl rfl (by rw [hA9]; rfl) ?_
    refine v_i2l (pc := 7) C dL_status_7 rfl ?_
    refine v_last (pc := 8) C (91, 0) ((w_at (by decide)).trans ho) (by simp only [vp_in_iff]; decide) dL_status_8 ?_
    refine v_h (h2 := w g (vup r (91, 0) (vJ 1 (vp_updL o 0 ((V_X11_status g a).toInt64))))) ((w_vup (by decide)).trans rfl) ?_
    refine v_goto (tgt := 15) (pc := 9) C dL_status_9 (by decide) ?_
    refine v_iconst (v := 0) (pc := 15) C dL_status_15 rfl ?_
    exact v_iret (pc := 16) C (Nat.le_of_eq (Nat.zero_add _)) (Nat.le_of_eq (Nat.zero_add _)) dL_status_16 ⟨by rw [x9]; rfl, (hA9 ▸ vAs_r), by rw [if_pos x9]⟩
set_option maxHeartbeats 4000000 in
set_option maxRecDepth 100000 in
theorem c_L_throwAway {G : vG} (hG : G.1.stackTraces = false) {A : vN → Nat} {g : vS} {r : vH} (u : Int32) (a : Int32) (hI : vI1 g) {o : Nat → Int64} (ho : r (91, 0) = some (vJ 1 o)) : vCtH G yL_throwAway cL_throwAway 5 (some .int) [(0, 10, 13, 21), (0, 10, 17, 43), (0, 10, 21, 15)] 3 [.ref (A (0, 0)), .int (u), .int (a), .ref (A (91, 0))] A (w g r) (fun v A2 h2 => v = some (.int (K_L_throwAway (X_X11_throwAway g u a))) ∧ vAs 1 0 A2 A ∧ h2 = w (S_X11_throwAway g u a) (if X_X11_throwAway g u a = 0 then vup r (91, 0) (vJ 1 (vp_updL o 0 ((V_X11_throwAway g u a).toInt64))) else r)) 3 18 := by
  refine v_ofH hG (by decide +kernel) (Nat.le_of_ble_eq_true rfl) (lv := [(0, .ref (A (0, 0))), (1, .int (u)), (2, .int (a)), (3, .ref (A (91, 0)))]) rfl (fun X C ht => ?_)
  have C : vC G X cL_throwAway 5 RL (some .int) "throwAway" 3 3 18 := C
  refine v_aload_n (pc := 0) C dL_throwAway_0 3 rfl rfl ?_
  refine v_iconst (v := 0) (pc := 1) C dL_throwAway_1 rfl ?_
  refine v_aload_n (pc := 2) C dL_throwAway_2 0 rfl rfl ?_
  refine v_iload_n (pc := 3) C dL_throwAway_3 1 rfl rfl ?_
  refine v_iload_n (pc := 4) C dL_throwAway_4 2 rfl rfl ?_
  refine v_callV (pc := 5) C (0, 0) ck_0 rfl (c_X11_throwAway hG (g := g) u a hI) 2 wd_892 wd_62 wd_889 wd_890 wd_891 (by decide +kernel) (by decide) (by decide) rfl ([.int 0, .ref (A (91, 0))]) rfl (Nat.le_of_ble_eq_true rfl) ⟨Nat.le_of_eq (Nat.zero_add _), Nat.le_of_eq (Nat.zero_add _)⟩ dL_throwAway_5 (fun cls9 A_1 h9 hE9 => ?_) (fun v9 A_1 h9 hR9 => ?_)
  · obtain ⟨q9, rfl, hA9, rfl⟩ := hE9
    have e9 := E_X_X11_throwAway (g := g) (u := u) (a := a)
    simp only [List.mem_cons, List.not_mem_nil, or_false] at e9
    rcases e9 with e9 | e9 | e9 | e9
    · exact absurd e9 q9
    · rw [show vEx (X_X11_throwAway g u a) = "java/util/NoSuchElementException" from by rw [e9]; rfl]
      refine v_catch (name := "java/util/NoSuchElementException") C ht [] ⟨0, 10, 13, 21⟩ [⟨0, 10, 17, 43⟩, ⟨0, 10, 21, 15⟩] rfl (fun z hz => by cases hz) (by decide) (by decide) wd_505 cst_1 (fun q8 => ?_)
      refine v_astore (lv2 := [(4, .ref q8), (0, .ref (A (0, 0))), (1, .int (u)), (2, .int (a)), (3, .ref (A (91, 0)))]) (pc := 13) C dL_throwAway_13 (by decide) rfl ?_
      refine v_iconst (v := 1) (pc := 15) C dL_throwAway_15 rfl ?_
      exact v_iret (pc := 16) C (Nat.le_of_eq (Nat.zero_add _)) (Nat.le_of_eq (Nat.zero_add _)) dL_throwAway_16 ⟨by rw [e9]; rfl, (hA9 ▸ vAs_r), by rw [if_neg q9]⟩
    · rw [show vEx (X_X11_throwAway g u a) = "java/lang/IllegalStateException" from by rw [e9]; rfl]
      refine v_catch (name := "java/lang/IllegalStateException") C ht [⟨0, 10, 13, 21⟩, ⟨0, 10, 17, 43⟩] ⟨0, 10, 21, 15⟩ [] rfl (fun z hz => by simp only [List.mem_cons, List.not_mem_nil, or_false] at hz; rcases hz with rfl | rfl <;> first | exact ⟨by decide, "java/util/NoSuchElementException", wd_505, ncs_3_1⟩ | exact ⟨by decide, "java/lang/UnsupportedOperationException", wd_675, ncs_3_4⟩) (by decide) (by decide) wd_354 cst_3 (fun q8 => ?_)
      refine v_astore (lv2 := [(4, .ref q8), (0, .ref (A (0, 0))), (1, .int (u)), (2, .int (a)), (3, .ref (A (91, 0)))]) (pc := 21) C dL_throwAway_21 (by decide) rfl ?_
      refine v_iconst (v := 3) (pc := 23) C dL_throwAway_23 rfl ?_
      exact v_iret (pc := 24) C (Nat.le_of_eq (Nat.zero_add _)) (Nat.le_of_eq (Nat.zero_add _)) dL_throwAway_24 ⟨by rw [e9]; rfl, (hA9 ▸ vAs_r), by rw [if_neg q9]⟩
    · rw [show vEx (X_X11_throwAway g u a) = "java/lang/UnsupportedOperationException" from by rw [e9]; rfl]
      refine v_catch (name := "java/lang/UnsupportedOperationException") C ht [⟨0, 10, 13, 21⟩] ⟨0, 10, 17, 43⟩ [⟨0, 10, 21, 15⟩] rfl (fun z hz => by simp only [List.mem_cons, List.not_mem_nil, or_false] at hz; rcases hz with rfl <;> first | exact ⟨by decide, "java/util/NoSuchElementException", wd_505, ncs_4_1⟩) (by decide) (by decide) wd_675 cst_4 (fun q8 => ?_)
      refine v_astore (lv2 := [(4, .ref q8), (0, .ref (A (0, 0))), (1, .int (u)), (2, .int (a)), (3, .ref (A (91, 0)))]) (pc := 17) C dL_throwAway_17 (by decide) rfl ?_
      refine v_iconst (v := 2) (pc := 19) C dL_throwAway_19 rfl ?_
      exact v_iret (pc := 20) C (Nat.le_of_eq (Nat.zero_add _)) (Nat.le_of_eq (Nat.zero_add _)) dL_throwAway_20 ⟨by rw [e9]; rfl, (hA9 ▸ vAs_r), by rw [if_neg q9]⟩
  · obtain ⟨x9, rfl, hA9, rfl⟩ := hR9
    refine v_st (k2 := 0 + 3) (n2 := 0 + 18) (st2 := [.int (V_X11_throwAway g u a), .int 0, .ref (A_1 (91, 0))]) rfl rfl (by rw [hA9]; rfl) ?_
    refine v_i2l (pc := 8) C dL_throwAway_8 rfl ?_
    refine v_last (pc := 9) C (91, 0) ((w_at (by decide)).trans ho) (by simp only [vp_in_iff]; decide) dL_throwAway_9 ?_
    refine v_h (h2 := w (S_X11_throwAway g u a) (vup r (91, 0) (vJ 1 (vp_updL o 0 ((V_X11_throwAway g u a).toInt64))))) ((w_vup (by decide)).trans rfl) ?_
    refine v_goto (tgt := 25) (pc := 10) C dL_throwAway_10 (by decide) ?_
    refine v_iconst (v := 0) (pc := 25) C dL_throwAway_25 rfl ?_
    exact v_iret (pc := 26) C (Nat.le_of_eq (Nat.zero_add _)) (Nat.le_of_eq (Nat.zero_add _)) dL_throwAway_26 ⟨by rw [x9]; rfl, (hA9 ▸ vAs_r), by rw [if_pos x9]⟩
set_option maxHeartbeats 4000000 in
set_option maxRecDepth 100000 in
theorem c_L_parts {G : vG} (hG : G.1.stackTraces = false) {A : vN → Nat} {g : vS} {r : vH} (a : Int32) (hI : vI1 g) {o : Nat → Int64} (ho : r (91, 0) = some (vJ 1 o)) : vCtH G yL_parts cL_parts 4 (some .int) [(0, 9, 12, 21)] 3 [.ref (A (0, 0)), .int (a), .ref (A (91, 0))] A (w g r) (fun v A2 h2 => v = some (.int (K_L_parts (X_X11_parts g a))) ∧ vAs 1 0 A2 A ∧ h2 = w g (if X_X11_parts g a = 0 then vup r (91, 0) (vJ 1 (vp_updL o 0 ((V_X11_parts g a).toInt64))) else r)) 1 6 := by
  refine v_ofH hG (by decide +kernel) (Nat.le_of_ble_eq_true rfl) (lv := [(0, .ref (A (0, 0))), (1, .int (a)), (2, .ref (A (91, 0)))]) rfl (fun X C ht => ?_)
  have C : vC G X cL_parts 4 RL (some .int) "parts" 3 1 6 := C
  refine v_aload_n (pc := 0) C dL_parts_0 2 rfl rfl ?_
  refine v_iconst (v := 0) (pc := 1) C dL_parts_1 rfl ?_
  refine v_aload_n (pc := 2) C dL_parts_2 0 rfl rfl ?_
  refine v_iload_n (pc := 3) C dL_parts_3 1 rfl rfl ?_
  refine v_callV (pc := 4) C (0, 0) ck_0 rfl (c_X11_parts hG (g := g) a hI) 1 wd_901 wd_62 wd_898 wd_899 wd_900 (by decide +kernel) (by decide) (by decide) rfl ([.int 0, .ref (A (91, 0))]) rfl (Nat.le_of_ble_eq_true rfl) ⟨Nat.le_of_eq (Nat.zero_add _), Nat.le_of_eq (Nat.zero_add _)⟩ dL_parts_4 (fun cls9 A_1 h9 hE9 => ?_) (fun v9 A_1 h9 hR9 => ?_)
  · obtain ⟨q9, rfl, hA9, rfl⟩ := hE9
    have e9 := E_X_X11_parts (g := g) (a := a)
    simp only [List.mem_cons, List.not_mem_nil, or_false] at e9
    rcases e9 with e9 | e9
    · exact absurd e9 q9
    · rw [show vEx (X_X11_parts g a) = "java/util/NoSuchElementException" from by rw [e9]; rfl]
      refine v_catch (name := "java/util/NoSuchElementException") C ht [] ⟨0, 9, 12, 21⟩ [] rfl (fun z hz => by cases hz) (by decide) (by decide) wd_505 cst_1 (fun q8 => ?_)
      refine v_astore_n (lv2 := [(3, .ref q8), (0, .ref (A (0, 0))), (1, .int (a)), (2, .ref (A (91, 0)))]) (pc := 12) C dL_parts_12 rfl (by decide) rfl ?_
      refine v_iconst (v := 1) (pc := 13) C dL_parts_13 rfl ?_
      exact v_iret (pc := 14) C (Nat.le_of_eq (Nat.zero_add _)) (Nat.le_of_eq (Nat.zero_add _)) dL_parts_14 ⟨by rw [e9]; rfl, (hA9 ▸ vAs_r), by rw [if_neg q9]⟩
  · obtain ⟨x9, rfl, hA9, rfl⟩ := hR9
    refine v_st (k2 := 0 + 1) (n2 := 0 + 6) (st2 := [.int (V_X11_parts g a), .int 0, .ref (A_1 (91, 0))]) rfl rfl (by rw [hA9]; rfl) ?_
    refine v_i2l (pc := 7) C dL_parts_7 rfl ?_
    refine v_last (pc := 8) C (91, 0) ((w_at (by decide)).trans ho) (by simp only [vp_in_iff]; decide) dL_parts_8 ?_
    refine v_h (h2 := w g (vup r (91, 0) (vJ 1 (vp_updL o 0 ((V_X11_parts g a).toInt64))))) ((w_vup (by decide)).trans rfl) ?_
    refine v_goto (tgt := 15) (pc := 9) C dL_parts_9 (by decide) ?_
    refine v_iconst (v := 0) (pc := 15) C dL_parts_15 rfl ?_
    exact v_iret (pc := 16) C (Nat.le_of_eq (Nat.zero_add _)) (Nat.le_of_eq (Nat.zero_add _)) dL_parts_16 ⟨by rw [x9]; rfl, (hA9 ▸ vAs_r), by rw [if_pos x9]⟩
set_option maxHeartbeats 4000000 in
set_option maxRecDepth 100000 in
theorem c_L_tell {G : vG} (hG : G.1.stackTraces = false) {A : vN → Nat} {g : vS} {r : vH} (u : Int32) (a : Int32) (x : Int32) (hI : vI1 g) {o : Nat → Int64} (ho : r (91, 0) = some (vJ 1 o)) : vCtH G yL_tell cL_tell 6 (some .int) [(0, 12, 15, 21), (0, 12, 19, 13), (0, 12, 23, 43), (0, 12, 27, 15)] 4 [.ref (A (0, 0)), .int (u), .int (a), .int (x), .ref (A (91, 0))] A (w g r) (fun v A2 h2 => v = some (.int (K_L_tell (X_X11_tell g u a x))) ∧ vAs 1 0 A2 A ∧ h2 = w (S_X11_tell g u a x) (if X_X11_tell g u a x = 0 then vup r (91, 0) (vJ 1 (vp_updL o 0 ((V_X11_tell g u a x).toInt64))) else r)) 5 30 := by
  refine v_ofH hG (by decide +kernel) (Nat.le_of_ble_eq_true rfl) (lv := [(0, .ref (A (0, 0))), (1, .int (u)), (2, .int (a)), (3, .int (x)), (4, .ref (A (91, 0)))]) rfl (fun X C ht => ?_)
  have C : vC G X cL_tell 6 RL (some .int) "tell" 4 5 30 := C
  refine v_aload (pc := 0) C dL_tell_0 4 rfl ?_
  refine v_iconst (v := 0) (pc := 2) C dL_tell_2 rfl ?_
  refine v_aload_n (pc := 3) C dL_tell_3 0 rfl rfl ?_
  refine v_iload_n (pc := 4) C dL_tell_4 1 rfl rfl ?_
  refine v_iload_n (pc := 5) C dL_tell_5 2 rfl rfl ?_
  refine v_iload_n (pc := 6) C dL_tell_6 3 rfl rfl ?_
  refine v_callV (pc := 7) C (0, 0) ck_0 rfl (c_X11_tell hG (g := g) u a x hI) 3 wd_908 wd_62 wd_905 wd_906 wd_907 (by decide +kernel) (by decide) (by decide) rfl ([.int 0, .ref (A (91, 0))]) rfl (Nat.le_of_ble_eq_true rfl) ⟨Nat.le_of_eq (Nat.zero_add _), Nat.le_of_eq (Nat.zero_add _)⟩ dL_tell_7 (fun cls9 A_1 h9 hE9 => ?_) (fun v9 A_1 h9 hR9 => ?_)
  · obtain ⟨q9, rfl, hA9, rfl⟩ := hE9
    have e9 := E_X_X11_tell (g := g) (u := u) (a := a) (x := x)
    simp only [List.mem_cons, List.not_mem_nil, or_false] at e9
    rcases e9 with e9 | e9 | e9 | e9 | e9
    · exact absurd e9 q9
    · rw [show vEx (X_X11_tell g u a x) = "java/util/NoSuchElementException" from by rw [e9]; rfl]
      refine v_catch (name := "java/util/NoSuchElementException") C ht [] ⟨0, 12, 15, 21⟩ [⟨0, 12, 19, 13⟩, ⟨0, 12, 23, 43⟩, ⟨0, 12, 27, 15⟩] rfl (fun z hz => by cases hz) (by decide) (by decide) wd_505 cst_1 (fun q8 => ?_)
      refine v_astore (lv2 := [(5, .ref q8), (0, .ref (A (0, 0))), (1, .int (u)), (2, .int (a)), (3, .int (x)), (4, .ref (A (91, 0)))]) (pc := 15) C dL_tell_15 (by decide) rfl ?_
      refine v_iconst (v := 1) (pc := 17) C dL_tell_17 rfl ?_
      exact v_iret (pc := 18) C (Nat.le_of_eq (Nat.zero_add _)) (Nat.le_of_eq (Nat.zero_add _)) dL_tell_18 ⟨by rw [e9]; rfl, (hA9 ▸ vAs_r), by rw [if_neg q9]⟩
    · rw [show vEx (X_X11_tell g u a x) = "java/lang/IllegalArgumentException" from by rw [e9]; rfl]
      refine v_catch (name := "java/lang/IllegalArgumentException") C ht [⟨0, 12, 15, 21⟩] ⟨0, 12, 19, 13⟩ [⟨0, 12, 23, 43⟩, ⟨0, 12, 27, 15⟩] rfl (fun z hz => by simp only [List.mem_cons, List.not_mem_nil, or_false] at hz; rcases hz with rfl <;> first | exact ⟨by decide, "java/util/NoSuchElementException", wd_505, ncs_2_1⟩) (by decide) (by decide) wd_353 cst_2 (fun q8 => ?_)
      refine v_astore (lv2 := [(5, .ref q8), (0, .ref (A (0, 0))), (1, .int (u)), (2, .int (a)), (3, .int (x)), (4, .ref (A (91, 0)))]) (pc := 19) C dL_tell_19 (by decide) rfl ?_
      refine v_iconst (v := 2) (pc := 21) C dL_tell_21 rfl ?_
      exact v_iret (pc := 22) C (Nat.le_of_eq (Nat.zero_add _)) (Nat.le_of_eq (Nat.zero_add _)) dL_tell_22 ⟨by rw [e9]; rfl, (hA9 ▸ vAs_r), by rw [if_neg q9]⟩
    · rw [show vEx (X_X11_tell g u a x) = "java/lang/IllegalStateException" from by rw [e9]; rfl]
      refine v_catch (name := "java/lang/IllegalStateException") C ht [⟨0, 12, 15, 21⟩, ⟨0, 12, 19, 13⟩, ⟨0, 12, 23, 43⟩] ⟨0, 12, 27, 15⟩ [] rfl (fun z hz => by simp only [List.mem_cons, List.not_mem_nil, or_false] at hz; rcases hz with rfl | rfl | rfl <;> first | exact ⟨by decide, "java/util/NoSuchElementException", wd_505, ncs_3_1⟩ | exact ⟨by decide, "java/lang/IllegalArgumentException", wd_353, ncs_3_2⟩ | exact ⟨by decide, "java/lang/UnsupportedOperationException", wd_675, ncs_3_4⟩) (by decide) (by decide) wd_354 cst_3 (fun q8 => ?_)
      refine v_astore (lv2 := [(5, .ref q8), (0, .ref (A (0, 0))), (1, .int (u)), (2, .int (a)), (3, .int (x)), (4, .ref (A (91, 0)))]) (pc := 27) C dL_tell_27 (by decide) rfl ?_
      refine v_iconst (v := 4) (pc := 29) C dL_tell_29 rfl ?_
      exact v_iret (pc := 30) C (Nat.le_of_eq (Nat.zero_add _)) (Nat.le_of_eq (Nat.zero_add _)) dL_tell_30 ⟨by rw [e9]; rfl, (hA9 ▸ vAs_r), by rw [if_neg q9]⟩
    · rw [show vEx (X_X11_tell g u a x) = "java/lang/UnsupportedOperationException" from by rw [e9]; rfl]
      refine v_catch (name := "java/lang/UnsupportedOperationException") C ht [⟨0, 12, 15, 21⟩, ⟨0, 12, 19, 13⟩] ⟨0, 12, 23, 43⟩ [⟨0, 12, 27, 15⟩] rfl (fun z hz => by simp only [List.mem_cons, List.not_mem_nil, or_false] at hz; rcases hz with rfl | rfl <;> first | exact ⟨by decide, "java/util/NoSuchElementException", wd_505, ncs_4_1⟩ | exact ⟨by decide, "java/lang/IllegalArgumentException", wd_353, ncs_4_2⟩) (by decide) (by decide) wd_675 cst_4 (fun q8 => ?_)
      refine v_astore (lv2 := [(5, .ref q8), (0, .ref (A (0, 0))), (1, .int (u)), (2, .int (a)), (3, .int (x)), (4, .ref (A (91, 0)))]) (pc := 23) C dL_tell_23 (by decide) rfl ?_
      refine v_iconst (v := 3) (pc := 25) C dL_tell_25 rfl ?_
      exact v_iret (pc := 26) C (Nat.le_of_eq (Nat.zero_add _)) (Nat.le_of_eq (Nat.zero_add _)) dL_tell_26 ⟨by rw [e9]; rfl, (hA9 ▸ vAs_r), by rw [if_neg q9]⟩
  · obtain ⟨x9, rfl, hA9, rfl⟩ := hR9
    refine v_st (k2 := 0 + 5) (n2 := 0 + 30) (st2 := [.int (V_X11_tell g u a x), .int 0, .ref (A_1 (91, 0))]) rfl rfl (by rw [hA9]; rfl) ?_
    refine v_i2l (pc := 10) C dL_tell_10 rfl ?_
    refine v_last (pc := 11) C (91, 0) ((w_at (by decide)).trans ho) (by simp only [vp_in_iff]; decide) dL_tell_11 ?_
    refine v_h (h2 := w (S_X11_tell g u a x) (vup r (91, 0) (vJ 1 (vp_updL o 0 ((V_X11_tell g u a x).toInt64))))) ((w_vup (by decide)).trans rfl) ?_
    refine v_goto (tgt := 31) (pc := 12) C dL_tell_12 (by decide) ?_
    refine v_iconst (v := 0) (pc := 31) C dL_tell_31 rfl ?_
    exact v_iret (pc := 32) C (Nat.le_of_eq (Nat.zero_add _)) (Nat.le_of_eq (Nat.zero_add _)) dL_tell_32 ⟨by rw [x9]; rfl, (hA9 ▸ vAs_r), by rw [if_pos x9]⟩
set_option maxHeartbeats 4000000 in
set_option maxRecDepth 100000 in
theorem c_L_ask {G : vG} (hG : G.1.stackTraces = false) {A : vN → Nat} {g : vS} {r : vH} (u : Int32) (a : Int32) (x : Int32) (hr : vNr r) (h4 : vI4 g) {o : Nat → Int64} (ho : r (91, 0) = some (vJ 1 o)) : vCtH G yL_ask cL_ask 6 (some .int) [(0, 12, 15, 21), (0, 12, 19, 13), (0, 12, 23, 43)] 5 [.ref (A (0, 0)), .int (u), .int (a), .int (x), .ref (A (91, 0))] A (w g r) (fun v A2 h2 => v = some (.int (K_L_ask (X_X11_ask g u a x))) ∧ vAs 15 15 A2 A ∧ h2 = w (S_X11_ask g u a x) (if X_X11_ask g u a x = 0 then vup r (91, 0) (vJ 1 (vp_updL o 0 ((V_X11_ask g u a x).toInt64))) else r)) ((vPh (S_X11_ask g u a x) - vPh g) + 4) ((2 * (vPh (S_X11_ask g u a x) - vPh g)) + 24) := by
  refine v_ofH hG (by decide +kernel) (Nat.le_of_ble_eq_true rfl) (lv := [(0, .ref (A (0, 0))), (1, .int (u)), (2, .int (a)), (3, .int (x)), (4, .ref (A (91, 0)))]) rfl (fun X C ht => ?_)
  have C : vC G X cL_ask 6 RL (some .int) "ask" 5 ((vPh (S_X11_ask g u a x) - vPh g) + 4) ((2 * (vPh (S_X11_ask g u a x) - vPh g)) + 24) := C
  refine v_aload (pc := 0) C dL_ask_0 4 rfl ?_
  refine v_iconst (v := 0) (pc := 2) C dL_ask_2 rfl ?_
  refine v_aload_n (pc := 3) C dL_ask_3 0 rfl rfl ?_
  refine v_iload_n (pc := 4) C dL_ask_4 1 rfl rfl ?_
  refine v_iload_n (pc := 5) C dL_ask_5 2 rfl rfl ?_
  refine v_iload_n (pc := 6) C dL_ask_6 3 rfl rfl ?_
  refine v_callV (pc := 7) C (0, 0) ck_0 rfl (c_X11_ask hG (g := g) u a x hr h4) 3 wd_941 wd_62 wd_938 wd_939 wd_940 (by decide +kernel) (by decide) (by decide) rfl ([.int 0, .ref (A (91, 0))]) rfl (Nat.le_of_ble_eq_true rfl) ⟨Nat.le_of_eq (Nat.zero_add _), Nat.le_of_eq (Nat.zero_add _)⟩ dL_ask_7 (fun cls9 A_1 h9 hE9 => ?_) (fun v9 A_1 h9 hR9 => ?_)
  · obtain ⟨q9, rfl, hA9, rfl⟩ := hE9
    have e9 := E_X_X11_ask (g := g) (u := u) (a := a) (x := x)
    simp only [List.mem_cons, List.not_mem_nil, or_false] at e9
    rcases e9 with e9 | e9 | e9 | e9
    · exact absurd e9 q9
    · rw [show vEx (X_X11_ask g u a x) = "java/util/NoSuchElementException" from by rw [e9]; rfl]
      refine v_catch (name := "java/util/NoSuchElementException") C ht [] ⟨0, 12, 15, 21⟩ [⟨0, 12, 19, 13⟩, ⟨0, 12, 23, 43⟩] rfl (fun z hz => by cases hz) (by decide) (by decide) wd_505 cst_1 (fun q8 => ?_)
      refine v_astore (lv2 := [(5, .ref q8), (0, .ref (A (0, 0))), (1, .int (u)), (2, .int (a)), (3, .int (x)), (4, .ref (A (91, 0)))]) (pc := 15) C dL_ask_15 (by decide) rfl ?_
      refine v_iconst (v := 1) (pc := 17) C dL_ask_17 rfl ?_
      exact v_iret (pc := 18) C (Nat.le_of_eq (Nat.zero_add _)) (Nat.le_of_eq (Nat.zero_add _)) dL_ask_18 ⟨by rw [e9]; rfl, hA9, by rw [if_neg q9]⟩
    · rw [show vEx (X_X11_ask g u a x) = "java/lang/IllegalArgumentException" from by rw [e9]; rfl]
      refine v_catch (name := "java/lang/IllegalArgumentException") C ht [⟨0, 12, 15, 21⟩] ⟨0, 12, 19, 13⟩ [⟨0, 12, 23, 43⟩] rfl (fun z hz => by simp only [List.mem_cons, List.not_mem_nil, or_false] at hz; rcases hz with rfl <;> first | exact ⟨by decide, "java/util/NoSuchElementException", wd_505, ncs_2_1⟩) (by decide) (by decide) wd_353 cst_2 (fun q8 => ?_)
      refine v_astore (lv2 := [(5, .ref q8), (0, .ref (A (0, 0))), (1, .int (u)), (2, .int (a)), (3, .int (x)), (4, .ref (A (91, 0)))]) (pc := 19) C dL_ask_19 (by decide) rfl ?_
      refine v_iconst (v := 2) (pc := 21) C dL_ask_21 rfl ?_
      exact v_iret (pc := 22) C (Nat.le_of_eq (Nat.zero_add _)) (Nat.le_of_eq (Nat.zero_add _)) dL_ask_22 ⟨by rw [e9]; rfl, hA9, by rw [if_neg q9]⟩
    · rw [show vEx (X_X11_ask g u a x) = "java/lang/UnsupportedOperationException" from by rw [e9]; rfl]
      refine v_catch (name := "java/lang/UnsupportedOperationException") C ht [⟨0, 12, 15, 21⟩, ⟨0, 12, 19, 13⟩] ⟨0, 12, 23, 43⟩ [] rfl (fun z hz => by simp only [List.mem_cons, List.not_mem_nil, or_false] at hz; rcases hz with rfl | rfl <;> first | exact ⟨by decide, "java/util/NoSuchElementException", wd_505, ncs_4_1⟩ | exact ⟨by decide, "java/lang/IllegalArgumentException", wd_353, ncs_4_2⟩) (by decide) (by decide) wd_675 cst_4 (fun q8 => ?_)
      refine v_astore (lv2 := [(5, .ref q8), (0, .ref (A (0, 0))), (1, .int (u)), (2, .int (a)), (3, .int (x)), (4, .ref (A (91, 0)))]) (pc := 23) C dL_ask_23 (by decide) rfl ?_
      refine v_iconst (v := 3) (pc := 25) C dL_ask_25 rfl ?_
      exact v_iret (pc := 26) C (Nat.le_of_eq (Nat.zero_add _)) (Nat.le_of_eq (Nat.zero_add _)) dL_ask_26 ⟨by rw [e9]; rfl, hA9, by rw [if_neg q9]⟩
  · obtain ⟨x9, rfl, hA9, rfl⟩ := hR9
    refine v_st (k2 := 0 + ((vPh (S_X11_ask g u a x) - vPh g) + 4)) (n2 := 0 + ((2 * (vPh (S_X11_ask g u a x) - vPh g)) + 24)) (st2 := [.int (V_X11_ask g u a x), .int 0, .ref (A_1 (91, 0))]) rfl rfl (by rw [hA9 (91, 0) (Or.inr (Nat.le_of_ble_eq_true rfl))]; rfl) ?_
    refine v_i2l (pc := 10) C dL_ask_10 rfl ?_
    refine v_last (pc := 11) C (91, 0) ((w_at (by decide)).trans ho) (by simp only [vp_in_iff]; decide) dL_ask_11 ?_
    refine v_h (h2 := w (S_X11_ask g u a x) (vup r (91, 0) (vJ 1 (vp_updL o 0 ((V_X11_ask g u a x).toInt64))))) ((w_vup (by decide)).trans rfl) ?_
    refine v_goto (tgt := 27) (pc := 12) C dL_ask_12 (by decide) ?_
    refine v_iconst (v := 0) (pc := 27) C dL_ask_27 rfl ?_
    exact v_iret (pc := 28) C (Nat.le_of_eq (Nat.zero_add _)) (Nat.le_of_eq (Nat.zero_add _)) dL_ask_28 ⟨by rw [x9]; rfl, hA9, by rw [if_pos x9]⟩
set_option maxHeartbeats 4000000 in
set_option maxRecDepth 100000 in
theorem c_L_foundAt {G : vG} (hG : G.1.stackTraces = false) {A : vN → Nat} {g : vS} {r : vH} (x : Int32) {o : Nat → Int64} (ho : r (91, 0) = some (vJ 1 o)) : vCtH G yL_foundAt cL_foundAt 4 (some .int) [(0, 9, 12, 94)] 2 [.ref (A (0, 0)), .int (x), .ref (A (91, 0))] A (w g r) (fun v A2 h2 => v = some (.int (K_L_foundAt (X_X11_foundAt g x))) ∧ vAs 1 0 A2 A ∧ h2 = w g (if X_X11_foundAt g x = 0 then vup r (91, 0) (vJ 1 (vp_updL o 0 ((V_X11_foundAt g x).toInt64))) else r)) 1 6 := by
  refine v_ofH hG (by decide +kernel) (Nat.le_of_ble_eq_true rfl) (lv := [(0, .ref (A (0, 0))), (1, .int (x)), (2, .ref (A (91, 0)))]) rfl (fun X C ht => ?_)
  have C : vC G X cL_foundAt 4 RL (some .int) "foundAt" 2 1 6 := C
  refine v_aload_n (pc := 0) C dL_foundAt_0 2 rfl rfl ?_
  refine v_iconst (v := 0) (pc := 1) C dL_foundAt_1 rfl ?_
  refine v_aload_n (pc := 2) C dL_foundAt_2 0 rfl rfl ?_
  refine v_iload_n (pc := 3) C dL_foundAt_3 1 rfl rfl ?_
  refine v_callV (pc := 4) C (0, 0) ck_0 rfl (c_X11_foundAt hG (g := g) x ) 1 wd_998 wd_62 wd_995 wd_996 wd_997 (by decide +kernel) (by decide) (by decide) rfl ([.int 0, .ref (A (91, 0))]) rfl (Nat.le_of_ble_eq_true rfl) ⟨Nat.le_of_eq (Nat.zero_add _), Nat.le_of_eq (Nat.zero_add _)⟩ dL_foundAt_4 (fun cls9 A_1 h9 hE9 => ?_) (fun v9 A_1 h9 hR9 => ?_)
  · obtain ⟨q9, rfl, hA9, rfl⟩ := hE9
    have e9 := E_X_X11_foundAt (g := g) (x := x)
    simp only [List.mem_cons, List.not_mem_nil, or_false] at e9
    rcases e9 with e9 | e9
    · exact absurd e9 q9
    · rw [show vEx (X_X11_foundAt g x) = "java/lang/IndexOutOfBoundsException" from by rw [e9]; rfl]
      refine v_catch (name := "java/lang/IndexOutOfBoundsException") C ht [] ⟨0, 9, 12, 94⟩ [] rfl (fun z hz => by cases hz) (by decide) (by decide) wd_971 cst_5 (fun q8 => ?_)
      refine v_astore_n (lv2 := [(3, .ref q8), (0, .ref (A (0, 0))), (1, .int (x)), (2, .ref (A (91, 0)))]) (pc := 12) C dL_foundAt_12 rfl (by decide) rfl ?_
      refine v_iconst (v := 1) (pc := 13) C dL_foundAt_13 rfl ?_
      exact v_iret (pc := 14) C (Nat.le_of_eq (Nat.zero_add _)) (Nat.le_of_eq (Nat.zero_add _)) dL_foundAt_14 ⟨by rw [e9]; rfl, (hA9 ▸ vAs_r), by rw [if_neg q9]⟩
  · obtain ⟨x9, rfl, hA9, rfl⟩ := hR9
    refine v_st (k2 := 0 + 1) (n2 := 0 + 6) (st2 := [.int (V_X11_foundAt g x), .int 0, .ref (A_1 (91, 0))]) rfl rfl (by rw [hA9]; rfl) ?_
    refine v_i2l (pc := 7) C dL_foundAt_7 rfl ?_
    refine v_last (pc := 8) C (91, 0) ((w_at (by decide)).trans ho) (by simp only [vp_in_iff]; decide) dL_foundAt_8 ?_
    refine v_h (h2 := w g (vup r (91, 0) (vJ 1 (vp_updL o 0 ((V_X11_foundAt g x).toInt64))))) ((w_vup (by decide)).trans rfl) ?_
    refine v_goto (tgt := 15) (pc := 9) C dL_foundAt_9 (by decide) ?_
    refine v_iconst (v := 0) (pc := 15) C dL_foundAt_15 rfl ?_
    exact v_iret (pc := 16) C (Nat.le_of_eq (Nat.zero_add _)) (Nat.le_of_eq (Nat.zero_add _)) dL_foundAt_16 ⟨by rw [x9]; rfl, (hA9 ▸ vAs_r), by rw [if_pos x9]⟩
set_option maxHeartbeats 4000000 in
set_option maxRecDepth 100000 in
theorem c_L_shown {G : vG} (hG : G.1.stackTraces = false) {A : vN → Nat} {g : vS} {r : vH} (x : Int32) {o : Nat → Int64} (ho : r (91, 0) = some (vJ 1 o)) : vCtH G yL_shown cL_shown 4 (some .int) [(0, 9, 12, 13)] 1 [.ref (A (0, 0)), .int (x), .ref (A (91, 0))] A (w g r) (fun v A2 h2 => v = some (.int (K_L_shown (X_X11_shown g x))) ∧ vAs 1 0 A2 A ∧ h2 = w g (if X_X11_shown g x = 0 then vup r (91, 0) (vJ 1 (vp_updL o 0 ((V_X11_shown g x).toInt64))) else r)) 1 6 := by
  refine v_ofH hG (by decide +kernel) (Nat.le_of_ble_eq_true rfl) (lv := [(0, .ref (A (0, 0))), (1, .int (x)), (2, .ref (A (91, 0)))]) rfl (fun X C ht => ?_)
  have C : vC G X cL_shown 4 RL (some .int) "shown" 1 1 6 := C
  refine v_aload_n (pc := 0) C dL_shown_0 2 rfl rfl ?_
  refine v_iconst (v := 0) (pc := 1) C dL_shown_1 rfl ?_
  refine v_aload_n (pc := 2) C dL_shown_2 0 rfl rfl ?_
  refine v_iload_n (pc := 3) C dL_shown_3 1 rfl rfl ?_
  refine v_callV (pc := 4) C (0, 0) ck_0 rfl (c_X11_shown hG (g := g) x ) 1 wd_1025 wd_62 wd_1022 wd_1023 wd_1024 (by decide +kernel) (by decide) (by decide) rfl ([.int 0, .ref (A (91, 0))]) rfl (Nat.le_of_ble_eq_true rfl) ⟨Nat.le_of_eq (Nat.zero_add _), Nat.le_of_eq (Nat.zero_add _)⟩ dL_shown_4 (fun cls9 A_1 h9 hE9 => ?_) (fun v9 A_1 h9 hR9 => ?_)
  · obtain ⟨q9, rfl, hA9, rfl⟩ := hE9
    have e9 := E_X_X11_shown (g := g) (x := x)
    simp only [List.mem_cons, List.not_mem_nil, or_false] at e9
    rcases e9 with e9 | e9
    · exact absurd e9 q9
    · rw [show vEx (X_X11_shown g x) = "java/lang/IllegalArgumentException" from by rw [e9]; rfl]
      refine v_catch (name := "java/lang/IllegalArgumentException") C ht [] ⟨0, 9, 12, 13⟩ [] rfl (fun z hz => by cases hz) (by decide) (by decide) wd_353 cst_2 (fun q8 => ?_)
      refine v_astore_n (lv2 := [(3, .ref q8), (0, .ref (A (0, 0))), (1, .int (x)), (2, .ref (A (91, 0)))]) (pc := 12) C dL_shown_12 rfl (by decide) rfl ?_
      refine v_iconst (v := 1) (pc := 13) C dL_shown_13 rfl ?_
      exact v_iret (pc := 14) C (Nat.le_of_eq (Nat.zero_add _)) (Nat.le_of_eq (Nat.zero_add _)) dL_shown_14 ⟨by rw [e9]; rfl, (hA9 ▸ vAs_r), by rw [if_neg q9]⟩
  · obtain ⟨x9, rfl, hA9, rfl⟩ := hR9
    refine v_st (k2 := 0 + 1) (n2 := 0 + 6) (st2 := [.int (V_X11_shown g x), .int 0, .ref (A_1 (91, 0))]) rfl rfl (by rw [hA9]; rfl) ?_
    refine v_i2l (pc := 7) C dL_shown_7 rfl ?_
    refine v_last (pc := 8) C (91, 0) ((w_at (by decide)).trans ho) (by simp only [vp_in_iff]; decide) dL_shown_8 ?_
    refine v_h (h2 := w g (vup r (91, 0) (vJ 1 (vp_updL o 0 ((V_X11_shown g x).toInt64))))) ((w_vup (by decide)).trans rfl) ?_
    refine v_goto (tgt := 15) (pc := 9) C dL_shown_9 (by decide) ?_
    refine v_iconst (v := 0) (pc := 15) C dL_shown_15 rfl ?_
    exact v_iret (pc := 16) C (Nat.le_of_eq (Nat.zero_add _)) (Nat.le_of_eq (Nat.zero_add _)) dL_shown_16 ⟨by rw [x9]; rfl, (hA9 ▸ vAs_r), by rw [if_pos x9]⟩
set_option maxHeartbeats 4000000 in
set_option maxRecDepth 100000 in
theorem c_L_leaf {G : vG} (hG : G.1.stackTraces = false) {A : vN → Nat} {g : vS} {r : vH} (x : Int32) {o : Nat → Int64} (ho : r (91, 0) = some (vJ 1 o)) : vCtH G yL_leaf cL_leaf 4 (some .int) [(0, 9, 12, 94)] 2 [.ref (A (0, 0)), .int (x), .ref (A (91, 0))] A (w g r) (fun v A2 h2 => v = some (.int (K_L_leaf (X_X11_leaf g x))) ∧ vAs 1 0 A2 A ∧ h2 = w g (if X_X11_leaf g x = 0 then vup r (91, 0) (vJ 1 (vp_updL o 0 ((V_X11_leaf g x).toInt64))) else r)) 1 6 := by
  refine v_ofH hG (by decide +kernel) (Nat.le_of_ble_eq_true rfl) (lv := [(0, .ref (A (0, 0))), (1, .int (x)), (2, .ref (A (91, 0)))]) rfl (fun X C ht => ?_)
  have C : vC G X cL_leaf 4 RL (some .int) "leaf" 2 1 6 := C
  refine v_aload_n (pc := 0) C dL_leaf_0 2 rfl rfl ?_
  refine v_iconst (v := 0) (pc := 1) C dL_leaf_1 rfl ?_
  refine v_aload_n (pc := 2) C dL_leaf_2 0 rfl rfl ?_
  refine v_iload_n (pc := 3) C dL_leaf_3 1 rfl rfl ?_
  refine v_callV (pc := 4) C (0, 0) ck_0 rfl (c_X11_leaf hG (g := g) x ) 1 wd_1033 wd_62 wd_1030 wd_1031 wd_1032 (by decide +kernel) (by decide) (by decide) rfl ([.int 0, .ref (A (91, 0))]) rfl (Nat.le_of_ble_eq_true rfl) ⟨Nat.le_of_eq (Nat.zero_add _), Nat.le_of_eq (Nat.zero_add _)⟩ dL_leaf_4 (fun cls9 A_1 h9 hE9 => ?_) (fun v9 A_1 h9 hR9 => ?_)
  · obtain ⟨q9, rfl, hA9, rfl⟩ := hE9
    have e9 := E_X_X11_leaf (g := g) (x := x)
    simp only [List.mem_cons, List.not_mem_nil, or_false] at e9
    rcases e9 with e9 | e9
    · exact absurd e9 q9
    · rw [show vEx (X_X11_leaf g x) = "java/lang/IndexOutOfBoundsException" from by rw [e9]; rfl]
      refine v_catch (name := "java/lang/IndexOutOfBoundsException") C ht [] ⟨0, 9, 12, 94⟩ [] rfl (fun z hz => by cases hz) (by decide) (by decide) wd_971 cst_5 (fun q8 => ?_)
      refine v_astore_n (lv2 := [(3, .ref q8), (0, .ref (A (0, 0))), (1, .int (x)), (2, .ref (A (91, 0)))]) (pc := 12) C dL_leaf_12 rfl (by decide) rfl ?_
      refine v_iconst (v := 1) (pc := 13) C dL_leaf_13 rfl ?_
      exact v_iret (pc := 14) C (Nat.le_of_eq (Nat.zero_add _)) (Nat.le_of_eq (Nat.zero_add _)) dL_leaf_14 ⟨by rw [e9]; rfl, (hA9 ▸ vAs_r), by rw [if_neg q9]⟩
  · obtain ⟨x9, rfl, hA9, rfl⟩ := hR9
    refine v_st (k2 := 0 + 1) (n2 := 0 + 6) (st2 := [.int (V_X11_leaf g x), .int 0, .ref (A_1 (91, 0))]) rfl rfl (by rw [hA9]; rfl) ?_
    refine v_i2l (pc := 7) C dL_leaf_7 rfl ?_
    refine v_last (pc := 8) C (91, 0) ((w_at (by decide)).trans ho) (by simp only [vp_in_iff]; decide) dL_leaf_8 ?_
    refine v_h (h2 := w g (vup r (91, 0) (vJ 1 (vp_updL o 0 ((V_X11_leaf g x).toInt64))))) ((w_vup (by decide)).trans rfl) ?_
    refine v_goto (tgt := 15) (pc := 9) C dL_leaf_9 (by decide) ?_
    refine v_iconst (v := 0) (pc := 15) C dL_leaf_15 rfl ?_
    exact v_iret (pc := 16) C (Nat.le_of_eq (Nat.zero_add _)) (Nat.le_of_eq (Nat.zero_add _)) dL_leaf_16 ⟨by rw [x9]; rfl, (hA9 ▸ vAs_r), by rw [if_pos x9]⟩
set_option maxHeartbeats 4000000 in
set_option maxRecDepth 100000 in
theorem c_L_root {G : vG} (hG : G.1.stackTraces = false) {A : vN → Nat} {g : vS} {r : vH} (nl : Int32) {o : Nat → Int64} (ho : r (91, 0) = some (vJ 1 o)) : vCtH G yL_root cL_root 4 (some .int) [(0, 9, 12, 13)] 18 [.ref (A (0, 0)), .int (nl), .ref (A (91, 0))] A (w g r) (fun v A2 h2 => v = some (.int (K_L_root (X_X11_root g nl))) ∧ vAs 1 0 A2 A ∧ h2 = w g (if X_X11_root g nl = 0 then vup r (91, 0) (vJ 1 (vp_updL o 0 ((V_X11_root g nl).toInt64))) else r)) 1 6 := by
  refine v_ofH hG (by decide +kernel) (Nat.le_of_ble_eq_true rfl) (lv := [(0, .ref (A (0, 0))), (1, .int (nl)), (2, .ref (A (91, 0)))]) rfl (fun X C ht => ?_)
  have C : vC G X cL_root 4 RL (some .int) "root" 18 1 6 := C
  refine v_aload_n (pc := 0) C dL_root_0 2 rfl rfl ?_
  refine v_iconst (v := 0) (pc := 1) C dL_root_1 rfl ?_
  refine v_aload_n (pc := 2) C dL_root_2 0 rfl rfl ?_
  refine v_iload_n (pc := 3) C dL_root_3 1 rfl rfl ?_
  refine v_callV (pc := 4) C (0, 0) ck_0 rfl (c_X11_root hG (g := g) nl ) 1 wd_1045 wd_62 wd_1042 wd_1043 wd_1044 (by decide +kernel) (by decide) (by decide) rfl ([.int 0, .ref (A (91, 0))]) rfl (Nat.le_of_ble_eq_true rfl) ⟨Nat.le_of_eq (Nat.zero_add _), Nat.le_of_eq (Nat.zero_add _)⟩ dL_root_4 (fun cls9 A_1 h9 hE9 => ?_) (fun v9 A_1 h9 hR9 => ?_)
  · obtain ⟨q9, rfl, hA9, rfl⟩ := hE9
    have e9 := E_X_X11_root (g := g) (nl := nl)
    simp only [List.mem_cons, List.not_mem_nil, or_false] at e9
    rcases e9 with e9 | e9
    · exact absurd e9 q9
    · rw [show vEx (X_X11_root g nl) = "java/lang/IllegalArgumentException" from by rw [e9]; rfl]
      refine v_catch (name := "java/lang/IllegalArgumentException") C ht [] ⟨0, 9, 12, 13⟩ [] rfl (fun z hz => by cases hz) (by decide) (by decide) wd_353 cst_2 (fun q8 => ?_)
      refine v_astore_n (lv2 := [(3, .ref q8), (0, .ref (A (0, 0))), (1, .int (nl)), (2, .ref (A (91, 0)))]) (pc := 12) C dL_root_12 rfl (by decide) rfl ?_
      refine v_iconst (v := 1) (pc := 13) C dL_root_13 rfl ?_
      exact v_iret (pc := 14) C (Nat.le_of_eq (Nat.zero_add _)) (Nat.le_of_eq (Nat.zero_add _)) dL_root_14 ⟨by rw [e9]; rfl, (hA9 ▸ vAs_r), by rw [if_neg q9]⟩
  · obtain ⟨x9, rfl, hA9, rfl⟩ := hR9
    refine v_st (k2 := 0 + 1) (n2 := 0 + 6) (st2 := [.int (V_X11_root g nl), .int 0, .ref (A_1 (91, 0))]) rfl rfl (by rw [hA9]; rfl) ?_
    refine v_i2l (pc := 7) C dL_root_7 rfl ?_
    refine v_last (pc := 8) C (91, 0) ((w_at (by decide)).trans ho) (by simp only [vp_in_iff]; decide) dL_root_8 ?_
    refine v_h (h2 := w g (vup r (91, 0) (vJ 1 (vp_updL o 0 ((V_X11_root g nl).toInt64))))) ((w_vup (by decide)).trans rfl) ?_
    refine v_goto (tgt := 15) (pc := 9) C dL_root_9 (by decide) ?_
    refine v_iconst (v := 0) (pc := 15) C dL_root_15 rfl ?_
    exact v_iret (pc := 16) C (Nat.le_of_eq (Nat.zero_add _)) (Nat.le_of_eq (Nat.zero_add _)) dL_root_16 ⟨by rw [x9]; rfl, (hA9 ▸ vAs_r), by rw [if_pos x9]⟩
set_option maxHeartbeats 4000000 in
set_option maxRecDepth 100000 in
theorem c_L_proofLength {G : vG} (hG : G.1.stackTraces = false) {A : vN → Nat} {g : vS} {r : vH} (nl : Int32) (x : Int32) {o : Nat → Int64} (ho : r (91, 0) = some (vJ 1 o)) : vCtH G yL_proofLength cL_proofLength 5 (some .int) [(0, 10, 13, 13), (0, 10, 17, 94)] 18 [.ref (A (0, 0)), .int (nl), .int (x), .ref (A (91, 0))] A (w g r) (fun v A2 h2 => v = some (.int (K_L_proofLength (X_X11_proofLength g nl x))) ∧ vAs 1 0 A2 A ∧ h2 = w (S_X11_proofLength g nl x) (if X_X11_proofLength g nl x = 0 then vup r (91, 0) (vJ 1 (vp_updL o 0 ((V_X11_proofLength g nl x).toInt64))) else r)) 2 12 := by
  refine v_ofH hG (by decide +kernel) (Nat.le_of_ble_eq_true rfl) (lv := [(0, .ref (A (0, 0))), (1, .int (nl)), (2, .int (x)), (3, .ref (A (91, 0)))]) rfl (fun X C ht => ?_)
  have C : vC G X cL_proofLength 5 RL (some .int) "proofLength" 18 2 12 := C
  refine v_aload_n (pc := 0) C dL_proofLength_0 3 rfl rfl ?_
  refine v_iconst (v := 0) (pc := 1) C dL_proofLength_1 rfl ?_
  refine v_aload_n (pc := 2) C dL_proofLength_2 0 rfl rfl ?_
  refine v_iload_n (pc := 3) C dL_proofLength_3 1 rfl rfl ?_
  refine v_iload_n (pc := 4) C dL_proofLength_4 2 rfl rfl ?_
  refine v_callV (pc := 5) C (0, 0) ck_0 rfl (c_X11_proofLength hG (g := g) nl x ) 2 wd_1068 wd_62 wd_1065 wd_1066 wd_1067 (by decide +kernel) (by decide) (by decide) rfl ([.int 0, .ref (A (91, 0))]) rfl (Nat.le_of_ble_eq_true rfl) ⟨Nat.le_of_eq (Nat.zero_add _), Nat.le_of_eq (Nat.zero_add _)⟩ dL_proofLength_5 (fun cls9 A_1 h9 hE9 => ?_) (fun v9 A_1 h9 hR9 => ?_)
  · obtain ⟨q9, rfl, hA9, rfl⟩ := hE9
    have e9 := E_X_X11_proofLength (g := g) (nl := nl) (x := x)
    simp only [List.mem_cons, List.not_mem_nil, or_false] at e9
    rcases e9 with e9 | e9 | e9
    · exact absurd e9 q9
    · rw [show vEx (X_X11_proofLength g nl x) = "java/lang/IllegalArgumentException" from by rw [e9]; rfl]
      refine v_catch (name := "java/lang/IllegalArgumentException") C ht [] ⟨0, 10, 13, 13⟩ [⟨0, 10, 17, 94⟩] rfl (fun z hz => by cases hz) (by decide) (by decide) wd_353 cst_2 (fun q8 => ?_)
      refine v_astore (lv2 := [(4, .ref q8), (0, .ref (A (0, 0))), (1, .int (nl)), (2, .int (x)), (3, .ref (A (91, 0)))]) (pc := 13) C dL_proofLength_13 (by decide) rfl ?_
      refine v_iconst (v := 1) (pc := 15) C dL_proofLength_15 rfl ?_
      exact v_iret (pc := 16) C (Nat.le_of_eq (Nat.zero_add _)) (Nat.le_of_eq (Nat.zero_add _)) dL_proofLength_16 ⟨by rw [e9]; rfl, (hA9 ▸ vAs_r), by rw [if_neg q9]⟩
    · rw [show vEx (X_X11_proofLength g nl x) = "java/lang/IndexOutOfBoundsException" from by rw [e9]; rfl]
      refine v_catch (name := "java/lang/IndexOutOfBoundsException") C ht [⟨0, 10, 13, 13⟩] ⟨0, 10, 17, 94⟩ [] rfl (fun z hz => by simp only [List.mem_cons, List.not_mem_nil, or_false] at hz; rcases hz with rfl <;> first | exact ⟨by decide, "java/lang/IllegalArgumentException", wd_353, ncs_5_2⟩) (by decide) (by decide) wd_971 cst_5 (fun q8 => ?_)
      refine v_astore (lv2 := [(4, .ref q8), (0, .ref (A (0, 0))), (1, .int (nl)), (2, .int (x)), (3, .ref (A (91, 0)))]) (pc := 17) C dL_proofLength_17 (by decide) rfl ?_
      refine v_iconst (v := 2) (pc := 19) C dL_proofLength_19 rfl ?_
      exact v_iret (pc := 20) C (Nat.le_of_eq (Nat.zero_add _)) (Nat.le_of_eq (Nat.zero_add _)) dL_proofLength_20 ⟨by rw [e9]; rfl, (hA9 ▸ vAs_r), by rw [if_neg q9]⟩
  · obtain ⟨x9, rfl, hA9, rfl⟩ := hR9
    refine v_st (k2 := 0 + 2) (n2 := 0 + 12) (st2 := [.int (V_X11_proofLength g nl x), .int 0, .ref (A_1 (91, 0))]) rfl rfl (by rw [hA9]; rfl) ?_
    refine v_i2l (pc := 8) C dL_proofLength_8 rfl ?_
    refine v_last (pc := 9) C (91, 0) ((w_at (by decide)).trans ho) (by simp only [vp_in_iff]; decide) dL_proofLength_9 ?_
    refine v_h (h2 := w (S_X11_proofLength g nl x) (vup r (91, 0) (vJ 1 (vp_updL o 0 ((V_X11_proofLength g nl x).toInt64))))) ((w_vup (by decide)).trans rfl) ?_
    refine v_goto (tgt := 21) (pc := 10) C dL_proofLength_10 (by decide) ?_
    refine v_iconst (v := 0) (pc := 21) C dL_proofLength_21 rfl ?_
    exact v_iret (pc := 22) C (Nat.le_of_eq (Nat.zero_add _)) (Nat.le_of_eq (Nat.zero_add _)) dL_proofLength_22 ⟨by rw [x9]; rfl, (hA9 ▸ vAs_r), by rw [if_pos x9]⟩
set_option maxHeartbeats 4000000 in
set_option maxRecDepth 100000 in
theorem c_L_proofAt {G : vG} (hG : G.1.stackTraces = false) {A : vN → Nat} {g : vS} {r : vH} (nl : Int32) (x : Int32) (y : Int32) {o : Nat → Int64} (ho : r (91, 0) = some (vJ 1 o)) : vCtH G yL_proofAt cL_proofAt 6 (some .int) [(0, 12, 15, 13), (0, 12, 19, 94)] 18 [.ref (A (0, 0)), .int (nl), .int (x), .int (y), .ref (A (91, 0))] A (w g r) (fun v A2 h2 => v = some (.int (K_L_proofAt (X_X11_proofAt g nl x y))) ∧ vAs 1 0 A2 A ∧ h2 = w (S_X11_proofAt g nl x y) (if X_X11_proofAt g nl x y = 0 then vup r (91, 0) (vJ 1 (vp_updL o 0 ((V_X11_proofAt g nl x y).toInt64))) else r)) 3 18 := by
  refine v_ofH hG (by decide +kernel) (Nat.le_of_ble_eq_true rfl) (lv := [(0, .ref (A (0, 0))), (1, .int (nl)), (2, .int (x)), (3, .int (y)), (4, .ref (A (91, 0)))]) rfl (fun X C ht => ?_)
  have C : vC G X cL_proofAt 6 RL (some .int) "proofAt" 18 3 18 := C
  refine v_aload (pc := 0) C dL_proofAt_0 4 rfl ?_
  refine v_iconst (v := 0) (pc := 2) C dL_proofAt_2 rfl ?_
  refine v_aload_n (pc := 3) C dL_proofAt_3 0 rfl rfl ?_
  refine v_iload_n (pc := 4) C dL_proofAt_4 1 rfl rfl ?_
  refine v_iload_n (pc := 5) C dL_proofAt_5 2 rfl rfl ?_
  refine v_iload_n (pc := 6) C dL_proofAt_6 3 rfl rfl ?_
  refine v_callV (pc := 7) C (0, 0) ck_0 rfl (c_X11_proofAt hG (g := g) nl x y ) 3 wd_1088 wd_62 wd_1085 wd_1086 wd_1087 (by decide +kernel) (by decide) (by decide) rfl ([.int 0, .ref (A (91, 0))]) rfl (Nat.le_of_ble_eq_true rfl) ⟨Nat.le_of_eq (Nat.zero_add _), Nat.le_of_eq (Nat.zero_add _)⟩ dL_proofAt_7 (fun cls9 A_1 h9 hE9 => ?_) (fun v9 A_1 h9 hR9 => ?_)
  · obtain ⟨q9, rfl, hA9, rfl⟩ := hE9
    have e9 := E_X_X11_proofAt (g := g) (nl := nl) (x := x) (y := y)
    simp only [List.mem_cons, List.not_mem_nil, or_false] at e9
    rcases e9 with e9 | e9 | e9
    · exact absurd e9 q9
    · rw [show vEx (X_X11_proofAt g nl x y) = "java/lang/IllegalArgumentException" from by rw [e9]; rfl]
      refine v_catch (name := "java/lang/IllegalArgumentException") C ht [] ⟨0, 12, 15, 13⟩ [⟨0, 12, 19, 94⟩] rfl (fun z hz => by cases hz) (by decide) (by decide) wd_353 cst_2 (fun q8 => ?_)
      refine v_astore (lv2 := [(5, .ref q8), (0, .ref (A (0, 0))), (1, .int (nl)), (2, .int (x)), (3, .int (y)), (4, .ref (A (91, 0)))]) (pc := 15) C dL_proofAt_15 (by decide) rfl ?_
      refine v_iconst (v := 1) (pc := 17) C dL_proofAt_17 rfl ?_
      exact v_iret (pc := 18) C (Nat.le_of_eq (Nat.zero_add _)) (Nat.le_of_eq (Nat.zero_add _)) dL_proofAt_18 ⟨by rw [e9]; rfl, (hA9 ▸ vAs_r), by rw [if_neg q9]⟩
    · rw [show vEx (X_X11_proofAt g nl x y) = "java/lang/IndexOutOfBoundsException" from by rw [e9]; rfl]
      refine v_catch (name := "java/lang/IndexOutOfBoundsException") C ht [⟨0, 12, 15, 13⟩] ⟨0, 12, 19, 94⟩ [] rfl (fun z hz => by simp only [List.mem_cons, List.not_mem_nil, or_false] at hz; rcases hz with rfl <;> first | exact ⟨by decide, "java/lang/IllegalArgumentException", wd_353, ncs_5_2⟩) (by decide) (by decide) wd_971 cst_5 (fun q8 => ?_)
      refine v_astore (lv2 := [(5, .ref q8), (0, .ref (A (0, 0))), (1, .int (nl)), (2, .int (x)), (3, .int (y)), (4, .ref (A (91, 0)))]) (pc := 19) C dL_proofAt_19 (by decide) rfl ?_
      refine v_iconst (v := 2) (pc := 21) C dL_proofAt_21 rfl ?_
      exact v_iret (pc := 22) C (Nat.le_of_eq (Nat.zero_add _)) (Nat.le_of_eq (Nat.zero_add _)) dL_proofAt_22 ⟨by rw [e9]; rfl, (hA9 ▸ vAs_r), by rw [if_neg q9]⟩
  · obtain ⟨x9, rfl, hA9, rfl⟩ := hR9
    refine v_st (k2 := 0 + 3) (n2 := 0 + 18) (st2 := [.int (V_X11_proofAt g nl x y), .int 0, .ref (A_1 (91, 0))]) rfl rfl (by rw [hA9]; rfl) ?_
    refine v_i2l (pc := 10) C dL_proofAt_10 rfl ?_
    refine v_last (pc := 11) C (91, 0) ((w_at (by decide)).trans ho) (by simp only [vp_in_iff]; decide) dL_proofAt_11 ?_
    refine v_h (h2 := w (S_X11_proofAt g nl x y) (vup r (91, 0) (vJ 1 (vp_updL o 0 ((V_X11_proofAt g nl x y).toInt64))))) ((w_vup (by decide)).trans rfl) ?_
    refine v_goto (tgt := 23) (pc := 12) C dL_proofAt_12 (by decide) ?_
    refine v_iconst (v := 0) (pc := 23) C dL_proofAt_23 rfl ?_
    exact v_iret (pc := 24) C (Nat.le_of_eq (Nat.zero_add _)) (Nat.le_of_eq (Nat.zero_add _)) dL_proofAt_24 ⟨by rw [x9]; rfl, (hA9 ▸ vAs_r), by rw [if_pos x9]⟩
set_option maxHeartbeats 4000000 in
set_option maxRecDepth 100000 in
theorem c_L_prefixLength {G : vG} (hG : G.1.stackTraces = false) {A : vN → Nat} {g : vS} {r : vH} (m : Int32) (nl : Int32) {o : Nat → Int64} (ho : r (91, 0) = some (vJ 1 o)) : vCtH G yL_prefixLength cL_prefixLength 5 (some .int) [(0, 10, 13, 13)] 18 [.ref (A (0, 0)), .int (m), .int (nl), .ref (A (91, 0))] A (w g r) (fun v A2 h2 => v = some (.int (K_L_prefixLength (X_X11_prefixLength g m nl))) ∧ vAs 1 0 A2 A ∧ h2 = w (S_X11_prefixLength g m nl) (if X_X11_prefixLength g m nl = 0 then vup r (91, 0) (vJ 1 (vp_updL o 0 ((V_X11_prefixLength g m nl).toInt64))) else r)) 2 12 := by
  refine v_ofH hG (by decide +kernel) (Nat.le_of_ble_eq_true rfl) (lv := [(0, .ref (A (0, 0))), (1, .int (m)), (2, .int (nl)), (3, .ref (A (91, 0)))]) rfl (fun X C ht => ?_)
  have C : vC G X cL_prefixLength 5 RL (some .int) "prefixLength" 18 2 12 := C
  refine v_aload_n (pc := 0) C dL_prefixLength_0 3 rfl rfl ?_
  refine v_iconst (v := 0) (pc := 1) C dL_prefixLength_1 rfl ?_
  refine v_aload_n (pc := 2) C dL_prefixLength_2 0 rfl rfl ?_
  refine v_iload_n (pc := 3) C dL_prefixLength_3 1 rfl rfl ?_
  refine v_iload_n (pc := 4) C dL_prefixLength_4 2 rfl rfl ?_
  refine v_callV (pc := 5) C (0, 0) ck_0 rfl (c_X11_prefixLength hG (g := g) m nl ) 2 wd_1104 wd_62 wd_1101 wd_1102 wd_1103 (by decide +kernel) (by decide) (by decide) rfl ([.int 0, .ref (A (91, 0))]) rfl (Nat.le_of_ble_eq_true rfl) ⟨Nat.le_of_eq (Nat.zero_add _), Nat.le_of_eq (Nat.zero_add _)⟩ dL_prefixLength_5 (fun cls9 A_1 h9 hE9 => ?_) (fun v9 A_1 h9 hR9 => ?_)
  · obtain ⟨q9, rfl, hA9, rfl⟩ := hE9
    have e9 := E_X_X11_prefixLength (g := g) (m := m) (nl := nl)
    simp only [List.mem_cons, List.not_mem_nil, or_false] at e9
    rcases e9 with e9 | e9
    · exact absurd e9 q9
    · rw [show vEx (X_X11_prefixLength g m nl) = "java/lang/IllegalArgumentException" from by rw [e9]; rfl]
      refine v_catch (name := "java/lang/IllegalArgumentException") C ht [] ⟨0, 10, 13, 13⟩ [] rfl (fun z hz => by cases hz) (by decide) (by decide) wd_353 cst_2 (fun q8 => ?_)
      refine v_astore (lv2 := [(4, .ref q8), (0, .ref (A (0, 0))), (1, .int (m)), (2, .int (nl)), (3, .ref (A (91, 0)))]) (pc := 13) C dL_prefixLength_13 (by decide) rfl ?_
      refine v_iconst (v := 1) (pc := 15) C dL_prefixLength_15 rfl ?_
      exact v_iret (pc := 16) C (Nat.le_of_eq (Nat.zero_add _)) (Nat.le_of_eq (Nat.zero_add _)) dL_prefixLength_16 ⟨by rw [e9]; rfl, (hA9 ▸ vAs_r), by rw [if_neg q9]⟩
  · obtain ⟨x9, rfl, hA9, rfl⟩ := hR9
    refine v_st (k2 := 0 + 2) (n2 := 0 + 12) (st2 := [.int (V_X11_prefixLength g m nl), .int 0, .ref (A_1 (91, 0))]) rfl rfl (by rw [hA9]; rfl) ?_
    refine v_i2l (pc := 8) C dL_prefixLength_8 rfl ?_
    refine v_last (pc := 9) C (91, 0) ((w_at (by decide)).trans ho) (by simp only [vp_in_iff]; decide) dL_prefixLength_9 ?_
    refine v_h (h2 := w (S_X11_prefixLength g m nl) (vup r (91, 0) (vJ 1 (vp_updL o 0 ((V_X11_prefixLength g m nl).toInt64))))) ((w_vup (by decide)).trans rfl) ?_
    refine v_goto (tgt := 17) (pc := 10) C dL_prefixLength_10 (by decide) ?_
    refine v_iconst (v := 0) (pc := 17) C dL_prefixLength_17 rfl ?_
    exact v_iret (pc := 18) C (Nat.le_of_eq (Nat.zero_add _)) (Nat.le_of_eq (Nat.zero_add _)) dL_prefixLength_18 ⟨by rw [x9]; rfl, (hA9 ▸ vAs_r), by rw [if_pos x9]⟩
set_option maxHeartbeats 4000000 in
set_option maxRecDepth 100000 in
theorem c_L_prefixAt {G : vG} (hG : G.1.stackTraces = false) {A : vN → Nat} {g : vS} {r : vH} (m : Int32) (nl : Int32) (y : Int32) {o : Nat → Int64} (ho : r (91, 0) = some (vJ 1 o)) : vCtH G yL_prefixAt cL_prefixAt 6 (some .int) [(0, 12, 15, 13), (0, 12, 19, 94)] 18 [.ref (A (0, 0)), .int (m), .int (nl), .int (y), .ref (A (91, 0))] A (w g r) (fun v A2 h2 => v = some (.int (K_L_prefixAt (X_X11_prefixAt g m nl y))) ∧ vAs 1 0 A2 A ∧ h2 = w (S_X11_prefixAt g m nl y) (if X_X11_prefixAt g m nl y = 0 then vup r (91, 0) (vJ 1 (vp_updL o 0 ((V_X11_prefixAt g m nl y).toInt64))) else r)) 3 18 := by
  refine v_ofH hG (by decide +kernel) (Nat.le_of_ble_eq_true rfl) (lv := [(0, .ref (A (0, 0))), (1, .int (m)), (2, .int (nl)), (3, .int (y)), (4, .ref (A (91, 0)))]) rfl (fun X C ht => ?_)
  have C : vC G X cL_prefixAt 6 RL (some .int) "prefixAt" 18 3 18 := C
  refine v_aload (pc := 0) C dL_prefixAt_0 4 rfl ?_
  refine v_iconst (v := 0) (pc := 2) C dL_prefixAt_2 rfl ?_
  refine v_aload_n (pc := 3) C dL_prefixAt_3 0 rfl rfl ?_
  refine v_iload_n (pc := 4) C dL_prefixAt_4 1 rfl rfl ?_
  refine v_iload_n (pc := 5) C dL_prefixAt_5 2 rfl rfl ?_
  refine v_iload_n (pc := 6) C dL_prefixAt_6 3 rfl rfl ?_
  refine v_callV (pc := 7) C (0, 0) ck_0 rfl (c_X11_prefixAt hG (g := g) m nl y ) 3 wd_1120 wd_62 wd_1117 wd_1118 wd_1119 (by decide +kernel) (by decide) (by decide) rfl ([.int 0, .ref (A (91, 0))]) rfl (Nat.le_of_ble_eq_true rfl) ⟨Nat.le_of_eq (Nat.zero_add _), Nat.le_of_eq (Nat.zero_add _)⟩ dL_prefixAt_7 (fun cls9 A_1 h9 hE9 => ?_) (fun v9 A_1 h9 hR9 => ?_)
  · obtain ⟨q9, rfl, hA9, rfl⟩ := hE9
    have e9 := E_X_X11_prefixAt (g := g) (m := m) (nl := nl) (y := y)
    simp only [List.mem_cons, List.not_mem_nil, or_false] at e9
    rcases e9 with e9 | e9 | e9
    · exact absurd e9 q9
    · rw [show vEx (X_X11_prefixAt g m nl y) = "java/lang/IllegalArgumentException" from by rw [e9]; rfl]
      refine v_catch (name := "java/lang/IllegalArgumentException") C ht [] ⟨0, 12, 15, 13⟩ [⟨0, 12, 19, 94⟩] rfl (fun z hz => by cases hz) (by decide) (by decide) wd_353 cst_2 (fun q8 => ?_)
      refine v_astore (lv2 := [(5, .ref q8), (0, .ref (A (0, 0))), (1, .int (m)), (2, .int (nl)), (3, .int (y)), (4, .ref (A (91, 0)))]) (pc := 15) C dL_prefixAt_15 (by decide) rfl ?_
      refine v_iconst (v := 1) (pc := 17) C dL_prefixAt_17 rfl ?_
      exact v_iret (pc := 18) C (Nat.le_of_eq (Nat.zero_add _)) (Nat.le_of_eq (Nat.zero_add _)) dL_prefixAt_18 ⟨by rw [e9]; rfl, (hA9 ▸ vAs_r), by rw [if_neg q9]⟩
    · rw [show vEx (X_X11_prefixAt g m nl y) = "java/lang/IndexOutOfBoundsException" from by rw [e9]; rfl]
      refine v_catch (name := "java/lang/IndexOutOfBoundsException") C ht [⟨0, 12, 15, 13⟩] ⟨0, 12, 19, 94⟩ [] rfl (fun z hz => by simp only [List.mem_cons, List.not_mem_nil, or_false] at hz; rcases hz with rfl <;> first | exact ⟨by decide, "java/lang/IllegalArgumentException", wd_353, ncs_5_2⟩) (by decide) (by decide) wd_971 cst_5 (fun q8 => ?_)
      refine v_astore (lv2 := [(5, .ref q8), (0, .ref (A (0, 0))), (1, .int (m)), (2, .int (nl)), (3, .int (y)), (4, .ref (A (91, 0)))]) (pc := 19) C dL_prefixAt_19 (by decide) rfl ?_
      refine v_iconst (v := 2) (pc := 21) C dL_prefixAt_21 rfl ?_
      exact v_iret (pc := 22) C (Nat.le_of_eq (Nat.zero_add _)) (Nat.le_of_eq (Nat.zero_add _)) dL_prefixAt_22 ⟨by rw [e9]; rfl, (hA9 ▸ vAs_r), by rw [if_neg q9]⟩
  · obtain ⟨x9, rfl, hA9, rfl⟩ := hR9
    refine v_st (k2 := 0 + 3) (n2 := 0 + 18) (st2 := [.int (V_X11_prefixAt g m nl y), .int 0, .ref (A_1 (91, 0))]) rfl rfl (by rw [hA9]; rfl) ?_
    refine v_i2l (pc := 10) C dL_prefixAt_10 rfl ?_
    refine v_last (pc := 11) C (91, 0) ((w_at (by decide)).trans ho) (by simp only [vp_in_iff]; decide) dL_prefixAt_11 ?_
    refine v_h (h2 := w (S_X11_prefixAt g m nl y) (vup r (91, 0) (vJ 1 (vp_updL o 0 ((V_X11_prefixAt g m nl y).toInt64))))) ((w_vup (by decide)).trans rfl) ?_
    refine v_goto (tgt := 23) (pc := 12) C dL_prefixAt_12 (by decide) ?_
    refine v_iconst (v := 0) (pc := 23) C dL_prefixAt_23 rfl ?_
    exact v_iret (pc := 24) C (Nat.le_of_eq (Nat.zero_add _)) (Nat.le_of_eq (Nat.zero_add _)) dL_prefixAt_24 ⟨by rw [x9]; rfl, (hA9 ▸ vAs_r), by rw [if_pos x9]⟩
set_option maxHeartbeats 4000000 in
set_option maxRecDepth 100000 in
theorem c_L_forget {G : vG} (hG : G.1.stackTraces = false) {A : vN → Nat} {g : vS} {r : vH} (n : Int32) {o : Nat → Int64} (ho : r (91, 0) = some (vJ 1 o)) : vCtH G yL_forget cL_forget 4 (some .int) [(0, 9, 12, 13)] 3 [.ref (A (0, 0)), .int (n), .ref (A (91, 0))] A (w g r) (fun v A2 h2 => v = some (.int (K_L_forget (X_X11_forget g n))) ∧ vAs 1 0 A2 A ∧ h2 = w (S_X11_forget g n) (if X_X11_forget g n = 0 then vup r (91, 0) (vJ 1 (vp_updL o 0 ((V_X11_forget g n).toInt64))) else r)) 1 6 := by
  refine v_ofH hG (by decide +kernel) (Nat.le_of_ble_eq_true rfl) (lv := [(0, .ref (A (0, 0))), (1, .int (n)), (2, .ref (A (91, 0)))]) rfl (fun X C ht => ?_)
  have C : vC G X cL_forget 4 RL (some .int) "forget" 3 1 6 := C
  refine v_aload_n (pc := 0) C dL_forget_0 2 rfl rfl ?_
  refine v_iconst (v := 0) (pc := 1) C dL_forget_1 rfl ?_
  refine v_aload_n (pc := 2) C dL_forget_2 0 rfl rfl ?_
  refine v_iload_n (pc := 3) C dL_forget_3 1 rfl rfl ?_
  refine v_callV (pc := 4) C (0, 0) ck_0 rfl (c_X11_forget hG (g := g) n ) 1 wd_1127 wd_62 wd_1124 wd_1125 wd_1126 (by decide +kernel) (by decide) (by decide) rfl ([.int 0, .ref (A (91, 0))]) rfl (Nat.le_of_ble_eq_true rfl) ⟨Nat.le_of_eq (Nat.zero_add _), Nat.le_of_eq (Nat.zero_add _)⟩ dL_forget_4 (fun cls9 A_1 h9 hE9 => ?_) (fun v9 A_1 h9 hR9 => ?_)
  · obtain ⟨q9, rfl, hA9, rfl⟩ := hE9
    have e9 := E_X_X11_forget (g := g) (n := n)
    simp only [List.mem_cons, List.not_mem_nil, or_false] at e9
    rcases e9 with e9 | e9
    · exact absurd e9 q9
    · rw [show vEx (X_X11_forget g n) = "java/lang/IllegalArgumentException" from by rw [e9]; rfl]
      refine v_catch (name := "java/lang/IllegalArgumentException") C ht [] ⟨0, 9, 12, 13⟩ [] rfl (fun z hz => by cases hz) (by decide) (by decide) wd_353 cst_2 (fun q8 => ?_)
      refine v_astore_n (lv2 := [(3, .ref q8), (0, .ref (A (0, 0))), (1, .int (n)), (2, .ref (A (91, 0)))]) (pc := 12) C dL_forget_12 rfl (by decide) rfl ?_
      refine v_iconst (v := 1) (pc := 13) C dL_forget_13 rfl ?_
      exact v_iret (pc := 14) C (Nat.le_of_eq (Nat.zero_add _)) (Nat.le_of_eq (Nat.zero_add _)) dL_forget_14 ⟨by rw [e9]; rfl, (hA9 ▸ vAs_r), by rw [if_neg q9]⟩
  · obtain ⟨x9, rfl, hA9, rfl⟩ := hR9
    refine v_st (k2 := 0 + 1) (n2 := 0 + 6) (st2 := [.int (V_X11_forget g n), .int 0, .ref (A_1 (91, 0))]) rfl rfl (by rw [hA9]; rfl) ?_
    refine v_i2l (pc := 7) C dL_forget_7 rfl ?_
    refine v_last (pc := 8) C (91, 0) ((w_at (by decide)).trans ho) (by simp only [vp_in_iff]; decide) dL_forget_8 ?_
    refine v_h (h2 := w (S_X11_forget g n) (vup r (91, 0) (vJ 1 (vp_updL o 0 ((V_X11_forget g n).toInt64))))) ((w_vup (by decide)).trans rfl) ?_
    refine v_goto (tgt := 15) (pc := 9) C dL_forget_9 (by decide) ?_
    refine v_iconst (v := 0) (pc := 15) C dL_forget_15 rfl ?_
    exact v_iret (pc := 16) C (Nat.le_of_eq (Nat.zero_add _)) (Nat.le_of_eq (Nat.zero_add _)) dL_forget_16 ⟨by rw [x9]; rfl, (hA9 ▸ vAs_r), by rw [if_pos x9]⟩
set_option maxHeartbeats 4000000 in
set_option maxRecDepth 100000 in
theorem c_L_show {G : vG} (hG : G.1.stackTraces = false) {A : vN → Nat} {g : vS} {r : vH} (u : Int32) (l : Int32) {o : Nat → Int64} (ho : r (91, 0) = some (vJ 1 o)) : vCtH G yL_show cL_show 5 (some .int) [(0, 10, 13, 21), (0, 10, 17, 13)] 19 [.ref (A (0, 0)), .int (u), .int (l), .ref (A (91, 0))] A (w g r) (fun v A2 h2 => v = some (.int (K_L_show (X_X11_show g u l))) ∧ vAs 1 0 A2 A ∧ h2 = w (S_X11_show g u l) (if X_X11_show g u l = 0 then vup r (91, 0) (vJ 1 (vp_updL o 0 ((V_X11_show g u l).toInt64))) else r)) 2 12 := by
  refine v_ofH hG (by decide +kernel) (Nat.le_of_ble_eq_true rfl) (lv := [(0, .ref (A (0, 0))), (1, .int (u)), (2, .int (l)), (3, .ref (A (91, 0)))]) rfl (fun X C ht => ?_)
  have C : vC G X cL_show 5 RL (some .int) "show" 19 2 12 := C
  refine v_aload_n (pc := 0) C dL_show_0 3 rfl rfl ?_
  refine v_iconst (v := 0) (pc := 1) C dL_show_1 rfl ?_
  refine v_aload_n (pc := 2) C dL_show_2 0 rfl rfl ?_
  refine v_iload_n (pc := 3) C dL_show_3 1 rfl rfl ?_
  refine v_iload_n (pc := 4) C dL_show_4 2 rfl rfl ?_
  refine v_callV (pc := 5) C (0, 0) ck_0 rfl (c_X11_show hG (g := g) u l ) 2 wd_1138 wd_62 wd_1135 wd_1136 wd_1137 (by decide +kernel) (by decide) (by decide) rfl ([.int 0, .ref (A (91, 0))]) rfl (Nat.le_of_ble_eq_true rfl) ⟨Nat.le_of_eq (Nat.zero_add _), Nat.le_of_eq (Nat.zero_add _)⟩ dL_show_5 (fun cls9 A_1 h9 hE9 => ?_) (fun v9 A_1 h9 hR9 => ?_)
  · obtain ⟨q9, rfl, hA9, rfl⟩ := hE9
    have e9 := E_X_X11_show (g := g) (u := u) (l := l)
    simp only [List.mem_cons, List.not_mem_nil, or_false] at e9
    rcases e9 with e9 | e9 | e9
    · exact absurd e9 q9
    · rw [show vEx (X_X11_show g u l) = "java/util/NoSuchElementException" from by rw [e9]; rfl]
      refine v_catch (name := "java/util/NoSuchElementException") C ht [] ⟨0, 10, 13, 21⟩ [⟨0, 10, 17, 13⟩] rfl (fun z hz => by cases hz) (by decide) (by decide) wd_505 cst_1 (fun q8 => ?_)
      refine v_astore (lv2 := [(4, .ref q8), (0, .ref (A (0, 0))), (1, .int (u)), (2, .int (l)), (3, .ref (A (91, 0)))]) (pc := 13) C dL_show_13 (by decide) rfl ?_
      refine v_iconst (v := 1) (pc := 15) C dL_show_15 rfl ?_
      exact v_iret (pc := 16) C (Nat.le_of_eq (Nat.zero_add _)) (Nat.le_of_eq (Nat.zero_add _)) dL_show_16 ⟨by rw [e9]; rfl, (hA9 ▸ vAs_r), by rw [if_neg q9]⟩
    · rw [show vEx (X_X11_show g u l) = "java/lang/IllegalArgumentException" from by rw [e9]; rfl]
      refine v_catch (name := "java/lang/IllegalArgumentException") C ht [⟨0, 10, 13, 21⟩] ⟨0, 10, 17, 13⟩ [] rfl (fun z hz => by simp only [List.mem_cons, List.not_mem_nil, or_false] at hz; rcases hz with rfl <;> first | exact ⟨by decide, "java/util/NoSuchElementException", wd_505, ncs_2_1⟩) (by decide) (by decide) wd_353 cst_2 (fun q8 => ?_)
      refine v_astore (lv2 := [(4, .ref q8), (0, .ref (A (0, 0))), (1, .int (u)), (2, .int (l)), (3, .ref (A (91, 0)))]) (pc := 17) C dL_show_17 (by decide) rfl ?_
      refine v_iconst (v := 2) (pc := 19) C dL_show_19 rfl ?_
      exact v_iret (pc := 20) C (Nat.le_of_eq (Nat.zero_add _)) (Nat.le_of_eq (Nat.zero_add _)) dL_show_20 ⟨by rw [e9]; rfl, (hA9 ▸ vAs_r), by rw [if_neg q9]⟩
  · obtain ⟨x9, rfl, hA9, rfl⟩ := hR9
    refine v_st (k2 := 0 + 2) (n2 := 0 + 12) (st2 := [.int (V_X11_show g u l), .int 0, .ref (A_1 (91, 0))]) rfl rfl (by rw [hA9]; rfl) ?_
    refine v_i2l (pc := 8) C dL_show_8 rfl ?_
    refine v_last (pc := 9) C (91, 0) ((w_at (by decide)).trans ho) (by simp only [vp_in_iff]; decide) dL_show_9 ?_
    refine v_h (h2 := w (S_X11_show g u l) (vup r (91, 0) (vJ 1 (vp_updL o 0 ((V_X11_show g u l).toInt64))))) ((w_vup (by decide)).trans rfl) ?_
    refine v_goto (tgt := 21) (pc := 10) C dL_show_10 (by decide) ?_
    refine v_iconst (v := 0) (pc := 21) C dL_show_21 rfl ?_
    exact v_iret (pc := 22) C (Nat.le_of_eq (Nat.zero_add _)) (Nat.le_of_eq (Nat.zero_add _)) dL_show_22 ⟨by rw [x9]; rfl, (hA9 ▸ vAs_r), by rw [if_pos x9]⟩
set_option maxHeartbeats 4000000 in
set_option maxRecDepth 100000 in
theorem c_L_meet {G : vG} (hG : G.1.stackTraces = false) {A : vN → Nat} {g : vS} {r : vH} (u : Int32) (x : Int32) {o : Nat → Int64} (ho : r (91, 0) = some (vJ 1 o)) : vCtH G yL_meet cL_meet 5 (some .int) [(0, 10, 13, 21), (0, 10, 17, 13)] 19 [.ref (A (0, 0)), .int (u), .int (x), .ref (A (91, 0))] A (w g r) (fun v A2 h2 => v = some (.int (K_L_meet (X_X11_meet g u x))) ∧ vAs 1 0 A2 A ∧ h2 = w (S_X11_meet g u x) (if X_X11_meet g u x = 0 then vup r (91, 0) (vJ 1 (vp_updL o 0 ((V_X11_meet g u x).toInt64))) else r)) 3 18 := by
  refine v_ofH hG (by decide +kernel) (Nat.le_of_ble_eq_true rfl) (lv := [(0, .ref (A (0, 0))), (1, .int (u)), (2, .int (x)), (3, .ref (A (91, 0)))]) rfl (fun X C ht => ?_)
  have C : vC G X cL_meet 5 RL (some .int) "meet" 19 3 18 := C
  refine v_aload_n (pc := 0) C dL_meet_0 3 rfl rfl ?_
  refine v_iconst (v := 0) (pc := 1) C dL_meet_1 rfl ?_
  refine v_aload_n (pc := 2) C dL_meet_2 0 rfl rfl ?_
  refine v_iload_n (pc := 3) C dL_meet_3 1 rfl rfl ?_
  refine v_iload_n (pc := 4) C dL_meet_4 2 rfl rfl ?_
  refine v_callV (pc := 5) C (0, 0) ck_0 rfl (c_X11_meet hG (g := g) u x ) 2 wd_1149 wd_62 wd_1146 wd_1147 wd_1148 (by decide +kernel) (by decide) (by decide) rfl ([.int 0, .ref (A (91, 0))]) rfl (Nat.le_of_ble_eq_true rfl) ⟨Nat.le_of_eq (Nat.zero_add _), Nat.le_of_eq (Nat.zero_add _)⟩ dL_meet_5 (fun cls9 A_1 h9 hE9 => ?_) (fun v9 A_1 h9 hR9 => ?_)
  · obtain ⟨q9, rfl, hA9, rfl⟩ := hE9
    have e9 := E_X_X11_meet (g := g) (u := u) (x := x)
    simp only [List.mem_cons, List.not_mem_nil, or_false] at e9
    rcases e9 with e9 | e9 | e9
    · exact absurd e9 q9
    · rw [show vEx (X_X11_meet g u x) = "java/util/NoSuchElementException" from by rw [e9]; rfl]
      refine v_catch (name := "java/util/NoSuchElementException") C ht [] ⟨0, 10, 13, 21⟩ [⟨0, 10, 17, 13⟩] rfl (fun z hz => by cases hz) (by decide) (by decide) wd_505 cst_1 (fun q8 => ?_)
      refine v_astore (lv2 := [(4, .ref q8), (0, .ref (A (0, 0))), (1, .int (u)), (2, .int (x)), (3, .ref (A (91, 0)))]) (pc := 13) C dL_meet_13 (by decide) rfl ?_
      refine v_iconst (v := 1) (pc := 15) C dL_meet_15 rfl ?_
      exact v_iret (pc := 16) C (Nat.le_of_eq (Nat.zero_add _)) (Nat.le_of_eq (Nat.zero_add _)) dL_meet_16 ⟨by rw [e9]; rfl, (hA9 ▸ vAs_r), by rw [if_neg q9]⟩
    · rw [show vEx (X_X11_meet g u x) = "java/lang/IllegalArgumentException" from by rw [e9]; rfl]
      refine v_catch (name := "java/lang/IllegalArgumentException") C ht [⟨0, 10, 13, 21⟩] ⟨0, 10, 17, 13⟩ [] rfl (fun z hz => by simp only [List.mem_cons, List.not_mem_nil, or_false] at hz; rcases hz with rfl <;> first | exact ⟨by decide, "java/util/NoSuchElementException", wd_505, ncs_2_1⟩) (by decide) (by decide) wd_353 cst_2 (fun q8 => ?_)
      refine v_astore (lv2 := [(4, .ref q8), (0, .ref (A (0, 0))), (1, .int (u)), (2, .int (x)), (3, .ref (A (91, 0)))]) (pc := 17) C dL_meet_17 (by decide) rfl ?_
      refine v_iconst (v := 2) (pc := 19) C dL_meet_19 rfl ?_
      exact v_iret (pc := 20) C (Nat.le_of_eq (Nat.zero_add _)) (Nat.le_of_eq (Nat.zero_add _)) dL_meet_20 ⟨by rw [e9]; rfl, (hA9 ▸ vAs_r), by rw [if_neg q9]⟩
  · obtain ⟨x9, rfl, hA9, rfl⟩ := hR9
    refine v_st (k2 := 0 + 3) (n2 := 0 + 18) (st2 := [.int (V_X11_meet g u x), .int 0, .ref (A_1 (91, 0))]) rfl rfl (by rw [hA9]; rfl) ?_
    refine v_i2l (pc := 8) C dL_meet_8 rfl ?_
    refine v_last (pc := 9) C (91, 0) ((w_at (by decide)).trans ho) (by simp only [vp_in_iff]; decide) dL_meet_9 ?_
    refine v_h (h2 := w (S_X11_meet g u x) (vup r (91, 0) (vJ 1 (vp_updL o 0 ((V_X11_meet g u x).toInt64))))) ((w_vup (by decide)).trans rfl) ?_
    refine v_goto (tgt := 21) (pc := 10) C dL_meet_10 (by decide) ?_
    refine v_iconst (v := 0) (pc := 21) C dL_meet_21 rfl ?_
    exact v_iret (pc := 22) C (Nat.le_of_eq (Nat.zero_add _)) (Nat.le_of_eq (Nat.zero_add _)) dL_meet_22 ⟨by rw [x9]; rfl, (hA9 ▸ vAs_r), by rw [if_pos x9]⟩
set_option maxHeartbeats 4000000 in
set_option maxRecDepth 100000 in
theorem c_L_head {G : vG} (hG : G.1.stackTraces = false) {A : vN → Nat} {g : vS} {r : vH} (a : Int32) {o : Nat → Int64} (ho : r (91, 0) = some (vJ 1 o)) : vCtH G yL_head cL_head 4 (some .int) [(0, 9, 12, 21)] 2 [.ref (A (0, 0)), .int (a), .ref (A (91, 0))] A (w g r) (fun v A2 h2 => v = some (.int (K_L_head (X_X11_head g a))) ∧ vAs 1 0 A2 A ∧ h2 = w g (if X_X11_head g a = 0 then vup r (91, 0) (vJ 1 (vp_updL o 0 ((V_X11_head g a).toInt64))) else r)) 1 6 := by
  refine v_ofH hG (by decide +kernel) (Nat.le_of_ble_eq_true rfl) (lv := [(0, .ref (A (0, 0))), (1, .int (a)), (2, .ref (A (91, 0)))]) rfl (fun X C ht => ?_)
  have C : vC G X cL_head 4 RL (some .int) "head" 2 1 6 := C
  refine v_aload_n (pc := 0) C dL_head_0 2 rfl rfl ?_
  refine v_iconst (v := 0) (pc := 1) C dL_head_1 rfl ?_
  refine v_aload_n (pc := 2) C dL_head_2 0 rfl rfl ?_
  refine v_iload_n (pc := 3) C dL_head_3 1 rfl rfl ?_
  refine v_callV (pc := 4) C (0, 0) ck_0 rfl (c_X11_head hG (g := g) a ) 1 wd_1157 wd_62 wd_1154 wd_1155 wd_1156 (by decide +kernel) (by decide) (by decide) rfl ([.int 0, .ref (A (91, 0))]) rfl (Nat.le_of_ble_eq_true rfl) ⟨Nat.le_of_eq (Nat.zero_add _), Nat.le_of_eq (Nat.zero_add _)⟩ dL_head_4 (fun cls9 A_1 h9 hE9 => ?_) (fun v9 A_1 h9 hR9 => ?_)
  · obtain ⟨q9, rfl, hA9, rfl⟩ := hE9
    have e9 := E_X_X11_head (g := g) (a := a)
    simp only [List.mem_cons, List.not_mem_nil, or_false] at e9
    rcases e9 with e9 | e9
    · exact absurd e9 q9
    · rw [show vEx (X_X11_head g a) = "java/util/NoSuchElementException" from by rw [e9]; rfl]
      refine v_catch (name := "java/util/NoSuchElementException") C ht [] ⟨0, 9, 12, 21⟩ [] rfl (fun z hz => by cases hz) (by decide) (by decide) wd_505 cst_1 (fun q8 => ?_)
      refine v_astore_n (lv2 := [(3, .ref q8), (0, .ref (A (0, 0))), (1, .int (a)), (2, .ref (A (91, 0)))]) (pc := 12) C dL_head_12 rfl (by decide) rfl ?_
      refine v_iconst (v := 1) (pc := 13) C dL_head_13 rfl ?_
      exact v_iret (pc := 14) C (Nat.le_of_eq (Nat.zero_add _)) (Nat.le_of_eq (Nat.zero_add _)) dL_head_14 ⟨by rw [e9]; rfl, (hA9 ▸ vAs_r), by rw [if_neg q9]⟩
  · obtain ⟨x9, rfl, hA9, rfl⟩ := hR9
    refine v_st (k2 := 0 + 1) (n2 := 0 + 6) (st2 := [.int (V_X11_head g a), .int 0, .ref (A_1 (91, 0))]) rfl rfl (by rw [hA9]; rfl) ?_
    refine v_i2l (pc := 7) C dL_head_7 rfl ?_
    refine v_last (pc := 8) C (91, 0) ((w_at (by decide)).trans ho) (by simp only [vp_in_iff]; decide) dL_head_8 ?_
    refine v_h (h2 := w g (vup r (91, 0) (vJ 1 (vp_updL o 0 ((V_X11_head g a).toInt64))))) ((w_vup (by decide)).trans rfl) ?_
    refine v_goto (tgt := 15) (pc := 9) C dL_head_9 (by decide) ?_
    refine v_iconst (v := 0) (pc := 15) C dL_head_15 rfl ?_
    exact v_iret (pc := 16) C (Nat.le_of_eq (Nat.zero_add _)) (Nat.le_of_eq (Nat.zero_add _)) dL_head_16 ⟨by rw [x9]; rfl, (hA9 ▸ vAs_r), by rw [if_pos x9]⟩
set_option maxHeartbeats 4000000 in
set_option maxRecDepth 100000 in
theorem c_L_alarms {G : vG} (hG : G.1.stackTraces = false) {A : vN → Nat} {g : vS} {r : vH} (a : Int32) {o : Nat → Int64} (ho : r (91, 0) = some (vJ 1 o)) : vCtH G yL_alarms cL_alarms 4 (some .int) [(0, 9, 12, 21)] 2 [.ref (A (0, 0)), .int (a), .ref (A (91, 0))] A (w g r) (fun v A2 h2 => v = some (.int (K_L_alarms (X_X11_alarms g a))) ∧ vAs 1 0 A2 A ∧ h2 = w g (if X_X11_alarms g a = 0 then vup r (91, 0) (vJ 1 (vp_updL o 0 ((V_X11_alarms g a).toInt64))) else r)) 1 6 := by
  refine v_ofH hG (by decide +kernel) (Nat.le_of_ble_eq_true rfl) (lv := [(0, .ref (A (0, 0))), (1, .int (a)), (2, .ref (A (91, 0)))]) rfl (fun X C ht => ?_)
  have C : vC G X cL_alarms 4 RL (some .int) "alarms" 2 1 6 := C
  refine v_aload_n (pc := 0) C dL_alarms_0 2 rfl rfl ?_
  refine v_iconst (v := 0) (pc := 1) C dL_alarms_1 rfl ?_
  refine v_aload_n (pc := 2) C dL_alarms_2 0 rfl rfl ?_
  refine v_iload_n (pc := 3) C dL_alarms_3 1 rfl rfl ?_
  refine v_callV (pc := 4) C (0, 0) ck_0 rfl (c_X11_alarms hG (g := g) a ) 1 wd_1164 wd_62 wd_1161 wd_1162 wd_1163 (by decide +kernel) (by decide) (by decide) rfl ([.int 0, .ref (A (91, 0))]) rfl (Nat.le_of_ble_eq_true rfl) ⟨Nat.le_of_eq (Nat.zero_add _), Nat.le_of_eq (Nat.zero_add _)⟩ dL_alarms_4 (fun cls9 A_1 h9 hE9 => ?_) (fun v9 A_1 h9 hR9 => ?_)
  · obtain ⟨q9, rfl, hA9, rfl⟩ := hE9
    have e9 := E_X_X11_alarms (g := g) (a := a)
    simp only [List.mem_cons, List.not_mem_nil, or_false] at e9
    rcases e9 with e9 | e9
    · exact absurd e9 q9
    · rw [show vEx (X_X11_alarms g a) = "java/util/NoSuchElementException" from by rw [e9]; rfl]
      refine v_catch (name := "java/util/NoSuchElementException") C ht [] ⟨0, 9, 12, 21⟩ [] rfl (fun z hz => by cases hz) (by decide) (by decide) wd_505 cst_1 (fun q8 => ?_)
      refine v_astore_n (lv2 := [(3, .ref q8), (0, .ref (A (0, 0))), (1, .int (a)), (2, .ref (A (91, 0)))]) (pc := 12) C dL_alarms_12 rfl (by decide) rfl ?_
      refine v_iconst (v := 1) (pc := 13) C dL_alarms_13 rfl ?_
      exact v_iret (pc := 14) C (Nat.le_of_eq (Nat.zero_add _)) (Nat.le_of_eq (Nat.zero_add _)) dL_alarms_14 ⟨by rw [e9]; rfl, (hA9 ▸ vAs_r), by rw [if_neg q9]⟩
  · obtain ⟨x9, rfl, hA9, rfl⟩ := hR9
    refine v_st (k2 := 0 + 1) (n2 := 0 + 6) (st2 := [.int (V_X11_alarms g a), .int 0, .ref (A_1 (91, 0))]) rfl rfl (by rw [hA9]; rfl) ?_
    refine v_i2l (pc := 7) C dL_alarms_7 rfl ?_
    refine v_last (pc := 8) C (91, 0) ((w_at (by decide)).trans ho) (by simp only [vp_in_iff]; decide) dL_alarms_8 ?_
    refine v_h (h2 := w g (vup r (91, 0) (vJ 1 (vp_updL o 0 ((V_X11_alarms g a).toInt64))))) ((w_vup (by decide)).trans rfl) ?_
    refine v_goto (tgt := 15) (pc := 9) C dL_alarms_9 (by decide) ?_
    refine v_iconst (v := 0) (pc := 15) C dL_alarms_15 rfl ?_
    exact v_iret (pc := 16) C (Nat.le_of_eq (Nat.zero_add _)) (Nat.le_of_eq (Nat.zero_add _)) dL_alarms_16 ⟨by rw [x9]; rfl, (hA9 ▸ vAs_r), by rw [if_pos x9]⟩
set_option maxHeartbeats 4000000 in
set_option maxRecDepth 100000 in
theorem c_L_split {G : vG} (hG : G.1.stackTraces = false) {A : vN → Nat} {g : vS} {r : vH} (a : Int32) (m : Int32) (n : Int32) {o : Nat → Int64} (ho : r (91, 0) = some (vJ 1 o)) : vCtH G yL_split cL_split 6 (some .int) [(0, 12, 15, 21), (0, 12, 19, 13)] 2 [.ref (A (0, 0)), .int (a), .int (m), .int (n), .ref (A (91, 0))] A (w g r) (fun v A2 h2 => v = some (.int (K_L_split (X_X11_split g a m n))) ∧ vAs 1 0 A2 A ∧ h2 = w (S_X11_split g a m n) (if X_X11_split g a m n = 0 then vup r (91, 0) (vJ 1 (vp_updL o 0 ((V_X11_split g a m n).toInt64))) else r)) 2 12 := by
  refine v_ofH hG (by decide +kernel) (Nat.le_of_ble_eq_true rfl) (lv := [(0, .ref (A (0, 0))), (1, .int (a)), (2, .int (m)), (3, .int (n)), (4, .ref (A (91, 0)))]) rfl (fun X C ht => ?_)
  have C : vC G X cL_split 6 RL (some .int) "split" 2 2 12 := C
  refine v_aload (pc := 0) C dL_split_0 4 rfl ?_
  refine v_iconst (v := 0) (pc := 2) C dL_split_2 rfl ?_
  refine v_aload_n (pc := 3) C dL_split_3 0 rfl rfl ?_
  refine v_iload_n (pc := 4) C dL_split_4 1 rfl rfl ?_
  refine v_iload_n (pc := 5) C dL_split_5 2 rfl rfl ?_
  refine v_iload_n (pc := 6) C dL_split_6 3 rfl rfl ?_
  refine v_callV (pc := 7) C (0, 0) ck_0 rfl (c_X11_split hG (g := g) a m n ) 3 wd_1171 wd_62 wd_1168 wd_1169 wd_1170 (by decide +kernel) (by decide) (by decide) rfl ([.int 0, .ref (A (91, 0))]) rfl (Nat.le_of_ble_eq_true rfl) ⟨Nat.le_of_eq (Nat.zero_add _), Nat.le_of_eq (Nat.zero_add _)⟩ dL_split_7 (fun cls9 A_1 h9 hE9 => ?_) (fun v9 A_1 h9 hR9 => ?_)
  · obtain ⟨q9, rfl, hA9, rfl⟩ := hE9
    have e9 := E_X_X11_split (g := g) (a := a) (m := m) (n := n)
    simp only [List.mem_cons, List.not_mem_nil, or_false] at e9
    rcases e9 with e9 | e9 | e9
    · exact absurd e9 q9
    · rw [show vEx (X_X11_split g a m n) = "java/util/NoSuchElementException" from by rw [e9]; rfl]
      refine v_catch (name := "java/util/NoSuchElementException") C ht [] ⟨0, 12, 15, 21⟩ [⟨0, 12, 19, 13⟩] rfl (fun z hz => by cases hz) (by decide) (by decide) wd_505 cst_1 (fun q8 => ?_)
      refine v_astore (lv2 := [(5, .ref q8), (0, .ref (A (0, 0))), (1, .int (a)), (2, .int (m)), (3, .int (n)), (4, .ref (A (91, 0)))]) (pc := 15) C dL_split_15 (by decide) rfl ?_
      refine v_iconst (v := 1) (pc := 17) C dL_split_17 rfl ?_
      exact v_iret (pc := 18) C (Nat.le_of_eq (Nat.zero_add _)) (Nat.le_of_eq (Nat.zero_add _)) dL_split_18 ⟨by rw [e9]; rfl, (hA9 ▸ vAs_r), by rw [if_neg q9]⟩
    · rw [show vEx (X_X11_split g a m n) = "java/lang/IllegalArgumentException" from by rw [e9]; rfl]
      refine v_catch (name := "java/lang/IllegalArgumentException") C ht [⟨0, 12, 15, 21⟩] ⟨0, 12, 19, 13⟩ [] rfl (fun z hz => by simp only [List.mem_cons, List.not_mem_nil, or_false] at hz; rcases hz with rfl <;> first | exact ⟨by decide, "java/util/NoSuchElementException", wd_505, ncs_2_1⟩) (by decide) (by decide) wd_353 cst_2 (fun q8 => ?_)
      refine v_astore (lv2 := [(5, .ref q8), (0, .ref (A (0, 0))), (1, .int (a)), (2, .int (m)), (3, .int (n)), (4, .ref (A (91, 0)))]) (pc := 19) C dL_split_19 (by decide) rfl ?_
      refine v_iconst (v := 2) (pc := 21) C dL_split_21 rfl ?_
      exact v_iret (pc := 22) C (Nat.le_of_eq (Nat.zero_add _)) (Nat.le_of_eq (Nat.zero_add _)) dL_split_22 ⟨by rw [e9]; rfl, (hA9 ▸ vAs_r), by rw [if_neg q9]⟩
  · obtain ⟨x9, rfl, hA9, rfl⟩ := hR9
    refine v_st (k2 := 0 + 2) (n2 := 0 + 12) (st2 := [.int (V_X11_split g a m n), .int 0, .ref (A_1 (91, 0))]) rfl rfl (by rw [hA9]; rfl) ?_
    refine v_i2l (pc := 10) C dL_split_10 rfl ?_
    refine v_last (pc := 11) C (91, 0) ((w_at (by decide)).trans ho) (by simp only [vp_in_iff]; decide) dL_split_11 ?_
    refine v_h (h2 := w (S_X11_split g a m n) (vup r (91, 0) (vJ 1 (vp_updL o 0 ((V_X11_split g a m n).toInt64))))) ((w_vup (by decide)).trans rfl) ?_
    refine v_goto (tgt := 23) (pc := 12) C dL_split_12 (by decide) ?_
    refine v_iconst (v := 0) (pc := 23) C dL_split_23 rfl ?_
    exact v_iret (pc := 24) C (Nat.le_of_eq (Nat.zero_add _)) (Nat.le_of_eq (Nat.zero_add _)) dL_split_24 ⟨by rw [x9]; rfl, (hA9 ▸ vAs_r), by rw [if_pos x9]⟩
set_option maxHeartbeats 4000000 in
set_option maxRecDepth 100000 in
theorem c_L_share {G : vG} (hG : G.1.stackTraces = false) {A : vN → Nat} {g : vS} {r : vH} (u : Int32) (x : Int32) (hb0 : 0 ≤ g 26 (u).toNatClampNeg 0) (hb : g 26 (u).toNatClampNeg 0 ≤ 8) {o : Nat → Int64} (ho : r (91, 0) = some (vJ 1 o)) : vCtH G yL_share cL_share 5 (some .int) [(0, 10, 13, 21), (0, 10, 17, 15), (0, 10, 21, 94)] 4 [.ref (A (0, 0)), .int (u), .int (x), .ref (A (91, 0))] A (w g r) (fun v A2 h2 => v = some (.int (K_L_share (X_X11_share g u x))) ∧ vAs 1 0 A2 A ∧ h2 = w g (if X_X11_share g u x = 0 then vup r (91, 0) (vJ 1 (vp_updL o 0 ((V_X11_share g u x).toInt64))) else r)) 2 12 := by
  refine v_ofH hG (by decide +kernel) (Nat.le_of_ble_eq_true rfl) (lv := [(0, .ref (A (0, 0))), (1, .int (u)), (2, .int (x)), (3, .ref (A (91, 0)))]) rfl (fun X C ht => ?_)
  have C : vC G X cL_share 5 RL (some .int) "share" 4 2 12 := C
  refine v_aload_n (pc := 0) C dL_share_0 3 rfl rfl ?_
  refine v_iconst (v := 0) (pc := 1) C dL_share_1 rfl ?_
  refine v_aload_n (pc := 2) C dL_share_2 0 rfl rfl ?_
  refine v_iload_n (pc := 3) C dL_share_3 1 rfl rfl ?_
  refine v_iload_n (pc := 4) C dL_share_4 2 rfl rfl ?_
  refine v_callV (pc := 5) C (0, 0) ck_0 rfl (c_X11_share hG (g := g) u x hb0 hb) 2 wd_1179 wd_62 wd_1176 wd_1177 wd_1178 (by decide +kernel) (by decide) (by decide) rfl ([.int 0, .ref (A (91, 0))]) rfl (Nat.le_of_ble_eq_true rfl) ⟨Nat.le_of_eq (Nat.zero_add _), Nat.le_of_eq (Nat.zero_add _)⟩ dL_share_5 (fun cls9 A_1 h9 hE9 => ?_) (fun v9 A_1 h9 hR9 => ?_)
  · obtain ⟨q9, rfl, hA9, rfl⟩ := hE9
    have e9 := E_X_X11_share (g := g) (u := u) (x := x)
    simp only [List.mem_cons, List.not_mem_nil, or_false] at e9
    rcases e9 with e9 | e9 | e9 | e9
    · exact absurd e9 q9
    · rw [show vEx (X_X11_share g u x) = "java/util/NoSuchElementException" from by rw [e9]; rfl]
      refine v_catch (name := "java/util/NoSuchElementException") C ht [] ⟨0, 10, 13, 21⟩ [⟨0, 10, 17, 15⟩, ⟨0, 10, 21, 94⟩] rfl (fun z hz => by cases hz) (by decide) (by decide) wd_505 cst_1 (fun q8 => ?_)
      refine v_astore (lv2 := [(4, .ref q8), (0, .ref (A (0, 0))), (1, .int (u)), (2, .int (x)), (3, .ref (A (91, 0)))]) (pc := 13) C dL_share_13 (by decide) rfl ?_
      refine v_iconst (v := 1) (pc := 15) C dL_share_15 rfl ?_
      exact v_iret (pc := 16) C (Nat.le_of_eq (Nat.zero_add _)) (Nat.le_of_eq (Nat.zero_add _)) dL_share_16 ⟨by rw [e9]; rfl, (hA9 ▸ vAs_r), by rw [if_neg q9]⟩
    · rw [show vEx (X_X11_share g u x) = "java/lang/IllegalStateException" from by rw [e9]; rfl]
      refine v_catch (name := "java/lang/IllegalStateException") C ht [⟨0, 10, 13, 21⟩] ⟨0, 10, 17, 15⟩ [⟨0, 10, 21, 94⟩] rfl (fun z hz => by simp only [List.mem_cons, List.not_mem_nil, or_false] at hz; rcases hz with rfl <;> first | exact ⟨by decide, "java/util/NoSuchElementException", wd_505, ncs_3_1⟩) (by decide) (by decide) wd_354 cst_3 (fun q8 => ?_)
      refine v_astore (lv2 := [(4, .ref q8), (0, .ref (A (0, 0))), (1, .int (u)), (2, .int (x)), (3, .ref (A (91, 0)))]) (pc := 17) C dL_share_17 (by decide) rfl ?_
      refine v_iconst (v := 2) (pc := 19) C dL_share_19 rfl ?_
      exact v_iret (pc := 20) C (Nat.le_of_eq (Nat.zero_add _)) (Nat.le_of_eq (Nat.zero_add _)) dL_share_20 ⟨by rw [e9]; rfl, (hA9 ▸ vAs_r), by rw [if_neg q9]⟩
    · rw [show vEx (X_X11_share g u x) = "java/lang/IndexOutOfBoundsException" from by rw [e9]; rfl]
      refine v_catch (name := "java/lang/IndexOutOfBoundsException") C ht [⟨0, 10, 13, 21⟩, ⟨0, 10, 17, 15⟩] ⟨0, 10, 21, 94⟩ [] rfl (fun z hz => by simp only [List.mem_cons, List.not_mem_nil, or_false] at hz; rcases hz with rfl | rfl <;> first | exact ⟨by decide, "java/util/NoSuchElementException", wd_505, ncs_5_1⟩ | exact ⟨by decide, "java/lang/IllegalStateException", wd_354, ncs_5_3⟩) (by decide) (by decide) wd_971 cst_5 (fun q8 => ?_)
      refine v_astore (lv2 := [(4, .ref q8), (0, .ref (A (0, 0))), (1, .int (u)), (2, .int (x)), (3, .ref (A (91, 0)))]) (pc := 21) C dL_share_21 (by decide) rfl ?_
      refine v_iconst (v := 3) (pc := 23) C dL_share_23 rfl ?_
      exact v_iret (pc := 24) C (Nat.le_of_eq (Nat.zero_add _)) (Nat.le_of_eq (Nat.zero_add _)) dL_share_24 ⟨by rw [e9]; rfl, (hA9 ▸ vAs_r), by rw [if_neg q9]⟩
  · obtain ⟨x9, rfl, hA9, rfl⟩ := hR9
    refine v_st (k2 := 0 + 2) (n2 := 0 + 12) (st2 := [.int (V_X11_share g u x), .int 0, .ref (A_1 (91, 0))]) rfl rfl (by rw [hA9]; rfl) ?_
    refine v_i2l (pc := 8) C dL_share_8 rfl ?_
    refine v_last (pc := 9) C (91, 0) ((w_at (by decide)).trans ho) (by simp only [vp_in_iff]; decide) dL_share_9 ?_
    refine v_h (h2 := w g (vup r (91, 0) (vJ 1 (vp_updL o 0 ((V_X11_share g u x).toInt64))))) ((w_vup (by decide)).trans rfl) ?_
    refine v_goto (tgt := 25) (pc := 10) C dL_share_10 (by decide) ?_
    refine v_iconst (v := 0) (pc := 25) C dL_share_25 rfl ?_
    exact v_iret (pc := 26) C (Nat.le_of_eq (Nat.zero_add _)) (Nat.le_of_eq (Nat.zero_add _)) dL_share_26 ⟨by rw [x9]; rfl, (hA9 ▸ vAs_r), by rw [if_pos x9]⟩
set_option maxHeartbeats 4000000 in
set_option maxRecDepth 100000 in
theorem c_L_collect {G : vG} (hG : G.1.stackTraces = false) {A : vN → Nat} {g : vS} {r : vH} (x : Int32) (y : Int32) {o : Nat → Int64} (ho : r (91, 0) = some (vJ 1 o)) : vCtH G yL_collect cL_collect 5 (some .int) [(0, 10, 13, 13)] 2 [.ref (A (0, 0)), .int (x), .int (y), .ref (A (91, 0))] A (w g r) (fun v A2 h2 => v = some (.int (K_L_collect (X_X11_collect g x y))) ∧ vAs 1 0 A2 A ∧ h2 = w (S_X11_collect g x y) (if X_X11_collect g x y = 0 then vup r (91, 0) (vJ 1 (vp_updL o 0 ((V_X11_collect g x y).toInt64))) else r)) 1 6 := by
  refine v_ofH hG (by decide +kernel) (Nat.le_of_ble_eq_true rfl) (lv := [(0, .ref (A (0, 0))), (1, .int (x)), (2, .int (y)), (3, .ref (A (91, 0)))]) rfl (fun X C ht => ?_)
  have C : vC G X cL_collect 5 RL (some .int) "collect" 2 1 6 := C
  refine v_aload_n (pc := 0) C dL_collect_0 3 rfl rfl ?_
  refine v_iconst (v := 0) (pc := 1) C dL_collect_1 rfl ?_
  refine v_aload_n (pc := 2) C dL_collect_2 0 rfl rfl ?_
  refine v_iload_n (pc := 3) C dL_collect_3 1 rfl rfl ?_
  refine v_iload_n (pc := 4) C dL_collect_4 2 rfl rfl ?_
  refine v_callV (pc := 5) C (0, 0) ck_0 rfl (c_X11_collect hG (g := g) x y ) 2 wd_1197 wd_62 wd_1194 wd_1195 wd_1196 (by decide +kernel) (by decide) (by decide) rfl ([.int 0, .ref (A (91, 0))]) rfl (Nat.le_of_ble_eq_true rfl) ⟨Nat.le_of_eq (Nat.zero_add _), Nat.le_of_eq (Nat.zero_add _)⟩ dL_collect_5 (fun cls9 A_1 h9 hE9 => ?_) (fun v9 A_1 h9 hR9 => ?_)
  · obtain ⟨q9, rfl, hA9, rfl⟩ := hE9
    have e9 := E_X_X11_collect (g := g) (x := x) (y := y)
    simp only [List.mem_cons, List.not_mem_nil, or_false] at e9
    rcases e9 with e9 | e9
    · exact absurd e9 q9
    · rw [show vEx (X_X11_collect g x y) = "java/lang/IllegalArgumentException" from by rw [e9]; rfl]
      refine v_catch (name := "java/lang/IllegalArgumentException") C ht [] ⟨0, 10, 13, 13⟩ [] rfl (fun z hz => by cases hz) (by decide) (by decide) wd_353 cst_2 (fun q8 => ?_)
      refine v_astore (lv2 := [(4, .ref q8), (0, .ref (A (0, 0))), (1, .int (x)), (2, .int (y)), (3, .ref (A (91, 0)))]) (pc := 13) C dL_collect_13 (by decide) rfl ?_
      refine v_iconst (v := 1) (pc := 15) C dL_collect_15 rfl ?_
      exact v_iret (pc := 16) C (Nat.le_of_eq (Nat.zero_add _)) (Nat.le_of_eq (Nat.zero_add _)) dL_collect_16 ⟨by rw [e9]; rfl, (hA9 ▸ vAs_r), by rw [if_neg q9]⟩
  · obtain ⟨x9, rfl, hA9, rfl⟩ := hR9
    refine v_st (k2 := 0 + 1) (n2 := 0 + 6) (st2 := [.int (V_X11_collect g x y), .int 0, .ref (A_1 (91, 0))]) rfl rfl (by rw [hA9]; rfl) ?_
    refine v_i2l (pc := 8) C dL_collect_8 rfl ?_
    refine v_last (pc := 9) C (91, 0) ((w_at (by decide)).trans ho) (by simp only [vp_in_iff]; decide) dL_collect_9 ?_
    refine v_h (h2 := w (S_X11_collect g x y) (vup r (91, 0) (vJ 1 (vp_updL o 0 ((V_X11_collect g x y).toInt64))))) ((w_vup (by decide)).trans rfl) ?_
    refine v_goto (tgt := 17) (pc := 10) C dL_collect_10 (by decide) ?_
    refine v_iconst (v := 0) (pc := 17) C dL_collect_17 rfl ?_
    exact v_iret (pc := 18) C (Nat.le_of_eq (Nat.zero_add _)) (Nat.le_of_eq (Nat.zero_add _)) dL_collect_18 ⟨by rw [x9]; rfl, (hA9 ▸ vAs_r), by rw [if_pos x9]⟩
set_option maxHeartbeats 4000000 in
set_option maxRecDepth 100000 in
theorem c_L_recovered {G : vG} (hG : G.1.stackTraces = false) {A : vN → Nat} {g : vS} {r : vH}  {o : Nat → Int64} (ho : r (91, 0) = some (vJ 1 o)) : vCtH G yL_recovered cL_recovered 3 (some .int) [(0, 8, 11, 15)] 4 [.ref (A (0, 0)), .ref (A (91, 0))] A (w g r) (fun v A2 h2 => v = some (.int (K_L_recovered (X_X11_recovered g))) ∧ vAs 1 0 A2 A ∧ h2 = w g (if X_X11_recovered g = 0 then vup r (91, 0) (vJ 1 (vp_updL o 0 ((V_X11_recovered g).toInt64))) else r)) 1 6 := by
  refine v_ofH hG (by decide +kernel) (Nat.le_of_ble_eq_true rfl) (lv := [(0, .ref (A (0, 0))), (1, .ref (A (91, 0)))]) rfl (fun X C ht => ?_)
  have C : vC G X cL_recovered 3 RL (some .int) "recovered" 4 1 6 := C
  refine v_aload_n (pc := 0) C dL_recovered_0 1 rfl rfl ?_
  refine v_iconst (v := 0) (pc := 1) C dL_recovered_1 rfl ?_
  refine v_aload_n (pc := 2) C dL_recovered_2 0 rfl rfl ?_
  refine v_callV (pc := 3) C (0, 0) ck_0 rfl (c_X11_recovered hG (g := g) ) 0 wd_1213 wd_62 wd_1210 wd_1211 wd_1212 (by decide +kernel) (by decide) (by decide) rfl ([.int 0, .ref (A (91, 0))]) rfl (Nat.le_of_ble_eq_true rfl) ⟨Nat.le_of_eq (Nat.zero_add _), Nat.le_of_eq (Nat.zero_add _)⟩ dL_recovered_3 (fun cls9 A_1 h9 hE9 => ?_) (fun v9 A_1 h9 hR9 => ?_)
  · obtain ⟨q9, rfl, hA9, rfl⟩ := hE9
    have e9 := E_X_X11_recovered (g := g)
    simp only [List.mem_cons, List.not_mem_nil, or_false] at e9
    rcases e9 with e9 | e9
    · exact absurd e9 q9
    · rw [show vEx (X_X11_recovered g) = "java/lang/IllegalStateException" from by rw [e9]; rfl]
      refine v_catch (name := "java/lang/IllegalStateException") C ht [] ⟨0, 8, 11, 15⟩ [] rfl (fun z hz => by cases hz) (by decide) (by decide) wd_354 cst_3 (fun q8 => ?_)
      refine v_astore_n (lv2 := [(2, .ref q8), (0, .ref (A (0, 0))), (1, .ref (A (91, 0)))]) (pc := 11) C dL_recovered_11 rfl (by decide) rfl ?_
      refine v_iconst (v := 1) (pc := 12) C dL_recovered_12 rfl ?_
      exact v_iret (pc := 13) C (Nat.le_of_eq (Nat.zero_add _)) (Nat.le_of_eq (Nat.zero_add _)) dL_recovered_13 ⟨by rw [e9]; rfl, (hA9 ▸ vAs_r), by rw [if_neg q9]⟩
  · obtain ⟨x9, rfl, hA9, rfl⟩ := hR9
    refine v_st (k2 := 0 + 1) (n2 := 0 + 6) (st2 := [.int (V_X11_recovered g), .int 0, .ref (A_1 (91, 0))]) rfl rfl (by rw [hA9]; rfl) ?_
    refine v_i2l (pc := 6) C dL_recovered_6 rfl ?_
    refine v_last (pc := 7) C (91, 0) ((w_at (by decide)).trans ho) (by simp only [vp_in_iff]; decide) dL_recovered_7 ?_
    refine v_h (h2 := w g (vup r (91, 0) (vJ 1 (vp_updL o 0 ((V_X11_recovered g).toInt64))))) ((w_vup (by decide)).trans rfl) ?_
    refine v_goto (tgt := 14) (pc := 8) C dL_recovered_8 (by decide) ?_
    refine v_iconst (v := 0) (pc := 14) C dL_recovered_14 rfl ?_
    exact v_iret (pc := 15) C (Nat.le_of_eq (Nat.zero_add _)) (Nat.le_of_eq (Nat.zero_add _)) dL_recovered_15 ⟨by rw [x9]; rfl, (hA9 ▸ vAs_r), by rw [if_pos x9]⟩
set_option maxHeartbeats 4000000 in
set_option maxRecDepth 100000 in
theorem c_L_goAway {G : vG} (hG : G.1.stackTraces = false) {A : vN → Nat} {g : vS} {r : vH} (u : Int32) {o : Nat → Int64} (ho : r (91, 0) = some (vJ 1 o)) : vCtH G yL_goAway cL_goAway 4 (some .int) [(0, 9, 12, 21), (0, 9, 15, 15)] 2 [.ref (A (0, 0)), .int (u), .ref (A (91, 0))] A (w g r) (fun v A2 h2 => v = some (.int (K_L_goAway (X_X11_goAway g u))) ∧ vAs 1 0 A2 A ∧ h2 = w (S_X11_goAway g u) (if X_X11_goAway g u = 0 then vup r (91, 0) (vJ 1 (vp_updL o 0 ((V_X11_goAway g u).toInt64))) else r)) 2 12 := by
  refine v_ofH hG (by decide +kernel) (Nat.le_of_ble_eq_true rfl) (lv := [(0, .ref (A (0, 0))), (1, .int (u)), (2, .ref (A (91, 0)))]) rfl (fun X C ht => ?_)
  have C : vC G X cL_goAway 4 RL (some .int) "goAway" 2 2 12 := C
  refine v_aload_n (pc := 0) C dL_goAway_0 2 rfl rfl ?_
  refine v_iconst (v := 0) (pc := 1) C dL_goAway_1 rfl ?_
  refine v_aload_n (pc := 2) C dL_goAway_2 0 rfl rfl ?_
  refine v_iload_n (pc := 3) C dL_goAway_3 1 rfl rfl ?_
  refine v_callV (pc := 4) C (0, 0) ck_0 rfl (c_X11_goAway hG (g := g) u ) 1 wd_1233 wd_62 wd_1230 wd_1231 wd_1232 (by decide +kernel) (by decide) (by decide) rfl ([.int 0, .ref (A (91, 0))]) rfl (Nat.le_of_ble_eq_true rfl) ⟨Nat.le_of_eq (Nat.zero_add _), Nat.le_of_eq (Nat.zero_add _)⟩ dL_goAway_4 (fun cls9 A_1 h9 hE9 => ?_) (fun v9 A_1 h9 hR9 => ?_)
  · obtain ⟨q9, rfl, hA9, rfl⟩ := hE9
    have e9 := E_X_X11_goAway (g := g) (u := u)
    simp only [List.mem_cons, List.not_mem_nil, or_false] at e9
    rcases e9 with e9 | e9 | e9
    · exact absurd e9 q9
    · rw [show vEx (X_X11_goAway g u) = "java/util/NoSuchElementException" from by rw [e9]; rfl]
      refine v_catch (name := "java/util/NoSuchElementException") C ht [] ⟨0, 9, 12, 21⟩ [⟨0, 9, 15, 15⟩] rfl (fun z hz => by cases hz) (by decide) (by decide) wd_505 cst_1 (fun q8 => ?_)
      refine v_astore_n (lv2 := [(3, .ref q8), (0, .ref (A (0, 0))), (1, .int (u)), (2, .ref (A (91, 0)))]) (pc := 12) C dL_goAway_12 rfl (by decide) rfl ?_
      refine v_iconst (v := 1) (pc := 13) C dL_goAway_13 rfl ?_
      exact v_iret (pc := 14) C (Nat.le_of_eq (Nat.zero_add _)) (Nat.le_of_eq (Nat.zero_add _)) dL_goAway_14 ⟨by rw [e9]; rfl, (hA9 ▸ vAs_r), by rw [if_neg q9]⟩
    · rw [show vEx (X_X11_goAway g u) = "java/lang/IllegalStateException" from by rw [e9]; rfl]
      refine v_catch (name := "java/lang/IllegalStateException") C ht [⟨0, 9, 12, 21⟩] ⟨0, 9, 15, 15⟩ [] rfl (fun z hz => by simp only [List.mem_cons, List.not_mem_nil, or_false] at hz; rcases hz with rfl <;> first | exact ⟨by decide, "java/util/NoSuchElementException", wd_505, ncs_3_1⟩) (by decide) (by decide) wd_354 cst_3 (fun q8 => ?_)
      refine v_astore_n (lv2 := [(3, .ref q8), (0, .ref (A (0, 0))), (1, .int (u)), (2, .ref (A (91, 0)))]) (pc := 15) C dL_goAway_15 rfl (by decide) rfl ?_
      refine v_iconst (v := 2) (pc := 16) C dL_goAway_16 rfl ?_
      exact v_iret (pc := 17) C (Nat.le_of_eq (Nat.zero_add _)) (Nat.le_of_eq (Nat.zero_add _)) dL_goAway_17 ⟨by rw [e9]; rfl, (hA9 ▸ vAs_r), by rw [if_neg q9]⟩
  · obtain ⟨x9, rfl, hA9, rfl⟩ := hR9
    refine v_st (k2 := 0 + 2) (n2 := 0 + 12) (st2 := [.int (V_X11_goAway g u), .int 0, .ref (A_1 (91, 0))]) rfl rfl (by rw [hA9]; rfl) ?_
    refine v_i2l (pc := 7) C dL_goAway_7 rfl ?_
    refine v_last (pc := 8) C (91, 0) ((w_at (by decide)).trans ho) (by simp only [vp_in_iff]; decide) dL_goAway_8 ?_
    refine v_h (h2 := w (S_X11_goAway g u) (vup r (91, 0) (vJ 1 (vp_updL o 0 ((V_X11_goAway g u).toInt64))))) ((w_vup (by decide)).trans rfl) ?_
    refine v_goto (tgt := 18) (pc := 9) C dL_goAway_9 (by decide) ?_
    refine v_iconst (v := 0) (pc := 18) C dL_goAway_18 rfl ?_
    exact v_iret (pc := 19) C (Nat.le_of_eq (Nat.zero_add _)) (Nat.le_of_eq (Nat.zero_add _)) dL_goAway_19 ⟨by rw [x9]; rfl, (hA9 ▸ vAs_r), by rw [if_pos x9]⟩
set_option maxHeartbeats 4000000 in
set_option maxRecDepth 100000 in
theorem c_L_draft {G : vG} (hG : G.1.stackTraces = false) {A : vN → Nat} {g : vS} {r : vH} (u : Int32) (a : Int32) (x : Int32) (y : Int32) (hc : g 27 (u).toNatClampNeg 0 ≤ 10) {o : Nat → Int64} (ho : r (91, 0) = some (vJ 1 o)) : vCtH G yL_draft cL_draft 7 (some .int) [(0, 14, 17, 21), (0, 14, 21, 13), (0, 14, 25, 15)] 4 [.ref (A (0, 0)), .int (u), .int (a), .int (x), .int (y), .ref (A (91, 0))] A (w g r) (fun v A2 h2 => v = some (.int (K_L_draft (X_X11_draft g u a x y))) ∧ vAs 1 0 A2 A ∧ h2 = w (S_X11_draft g u a x y) (if X_X11_draft g u a x y = 0 then vup r (91, 0) (vJ 1 (vp_updL o 0 ((V_X11_draft g u a x y).toInt64))) else r)) 4 24 := by
  refine v_ofH hG (by decide +kernel) (Nat.le_of_ble_eq_true rfl) (lv := [(0, .ref (A (0, 0))), (1, .int (u)), (2, .int (a)), (3, .int (x)), (4, .int (y)), (5, .ref (A (91, 0)))]) rfl (fun X C ht => ?_)
  have C : vC G X cL_draft 7 RL (some .int) "draft" 4 4 24 := C
  refine v_aload (pc := 0) C dL_draft_0 5 rfl ?_
  refine v_iconst (v := 0) (pc := 2) C dL_draft_2 rfl ?_
  refine v_aload_n (pc := 3) C dL_draft_3 0 rfl rfl ?_
  refine v_iload_n (pc := 4) C dL_draft_4 1 rfl rfl ?_
  refine v_iload_n (pc := 5) C dL_draft_5 2 rfl rfl ?_
  refine v_iload_n (pc := 6) C dL_draft_6 3 rfl rfl ?_
  refine v_iload (pc := 7) C dL_draft_7 4 rfl ?_
  refine v_callV (pc := 9) C (0, 0) ck_0 rfl (c_X11_draft hG (g := g) u a x y hc) 4 wd_1245 wd_62 wd_1242 wd_1243 wd_1244 (by decide +kernel) (by decide) (by decide) rfl ([.int 0, .ref (A (91, 0))]) rfl (Nat.le_of_ble_eq_true rfl) ⟨Nat.le_of_eq (Nat.zero_add _), Nat.le_of_eq (Nat.zero_add _)⟩ dL_draft_9 (fun cls9 A_1 h9 hE9 => ?_) (fun v9 A_1 h9 hR9 => ?_)
  · obtain ⟨q9, rfl, hA9, rfl⟩ := hE9
    have e9 := E_X_X11_draft (g := g) (u := u) (a := a) (x := x) (y := y)
    simp only [List.mem_cons, List.not_mem_nil, or_false] at e9
    rcases e9 with e9 | e9 | e9 | e9
    · exact absurd e9 q9
    · rw [show vEx (X_X11_draft g u a x y) = "java/util/NoSuchElementException" from by rw [e9]; rfl]
      refine v_catch (name := "java/util/NoSuchElementException") C ht [] ⟨0, 14, 17, 21⟩ [⟨0, 14, 21, 13⟩, ⟨0, 14, 25, 15⟩] rfl (fun z hz => by cases hz) (by decide) (by decide) wd_505 cst_1 (fun q8 => ?_)
      refine v_astore (lv2 := [(6, .ref q8), (0, .ref (A (0, 0))), (1, .int (u)), (2, .int (a)), (3, .int (x)), (4, .int (y)), (5, .ref (A (91, 0)))]) (pc := 17) C dL_draft_17 (by decide) rfl ?_
      refine v_iconst (v := 1) (pc := 19) C dL_draft_19 rfl ?_
      exact v_iret (pc := 20) C (Nat.le_of_eq (Nat.zero_add _)) (Nat.le_of_eq (Nat.zero_add _)) dL_draft_20 ⟨by rw [e9]; rfl, (hA9 ▸ vAs_r), by rw [if_neg q9]⟩
    · rw [show vEx (X_X11_draft g u a x y) = "java/lang/IllegalArgumentException" from by rw [e9]; rfl]
      refine v_catch (name := "java/lang/IllegalArgumentException") C ht [⟨0, 14, 17, 21⟩] ⟨0, 14, 21, 13⟩ [⟨0, 14, 25, 15⟩] rfl (fun z hz => by simp only [List.mem_cons, List.not_mem_nil, or_false] at hz; rcases hz with rfl <;> first | exact ⟨by decide, "java/util/NoSuchElementException", wd_505, ncs_2_1⟩) (by decide) (by decide) wd_353 cst_2 (fun q8 => ?_)
      refine v_astore (lv2 := [(6, .ref q8), (0, .ref (A (0, 0))), (1, .int (u)), (2, .int (a)), (3, .int (x)), (4, .int (y)), (5, .ref (A (91, 0)))]) (pc := 21) C dL_draft_21 (by decide) rfl ?_
      refine v_iconst (v := 2) (pc := 23) C dL_draft_23 rfl ?_
      exact v_iret (pc := 24) C (Nat.le_of_eq (Nat.zero_add _)) (Nat.le_of_eq (Nat.zero_add _)) dL_draft_24 ⟨by rw [e9]; rfl, (hA9 ▸ vAs_r), by rw [if_neg q9]⟩
    · rw [show vEx (X_X11_draft g u a x y) = "java/lang/IllegalStateException" from by rw [e9]; rfl]
      refine v_catch (name := "java/lang/IllegalStateException") C ht [⟨0, 14, 17, 21⟩, ⟨0, 14, 21, 13⟩] ⟨0, 14, 25, 15⟩ [] rfl (fun z hz => by simp only [List.mem_cons, List.not_mem_nil, or_false] at hz; rcases hz with rfl | rfl <;> first | exact ⟨by decide, "java/util/NoSuchElementException", wd_505, ncs_3_1⟩ | exact ⟨by decide, "java/lang/IllegalArgumentException", wd_353, ncs_3_2⟩) (by decide) (by decide) wd_354 cst_3 (fun q8 => ?_)
      refine v_astore (lv2 := [(6, .ref q8), (0, .ref (A (0, 0))), (1, .int (u)), (2, .int (a)), (3, .int (x)), (4, .int (y)), (5, .ref (A (91, 0)))]) (pc := 25) C dL_draft_25 (by decide) rfl ?_
      refine v_iconst (v := 3) (pc := 27) C dL_draft_27 rfl ?_
      exact v_iret (pc := 28) C (Nat.le_of_eq (Nat.zero_add _)) (Nat.le_of_eq (Nat.zero_add _)) dL_draft_28 ⟨by rw [e9]; rfl, (hA9 ▸ vAs_r), by rw [if_neg q9]⟩
  · obtain ⟨x9, rfl, hA9, rfl⟩ := hR9
    refine v_st (k2 := 0 + 4) (n2 := 0 + 24) (st2 := [.int (V_X11_draft g u a x y), .int 0, .ref (A_1 (91, 0))]) rfl rfl (by rw [hA9]; rfl) ?_
    refine v_i2l (pc := 12) C dL_draft_12 rfl ?_
    refine v_last (pc := 13) C (91, 0) ((w_at (by decide)).trans ho) (by simp only [vp_in_iff]; decide) dL_draft_13 ?_
    refine v_h (h2 := w (S_X11_draft g u a x y) (vup r (91, 0) (vJ 1 (vp_updL o 0 ((V_X11_draft g u a x y).toInt64))))) ((w_vup (by decide)).trans rfl) ?_
    refine v_goto (tgt := 29) (pc := 14) C dL_draft_14 (by decide) ?_
    refine v_iconst (v := 0) (pc := 29) C dL_draft_29 rfl ?_
    exact v_iret (pc := 30) C (Nat.le_of_eq (Nat.zero_add _)) (Nat.le_of_eq (Nat.zero_add _)) dL_draft_30 ⟨by rw [x9]; rfl, (hA9 ▸ vAs_r), by rw [if_pos x9]⟩
set_option maxHeartbeats 4000000 in
set_option maxRecDepth 100000 in
theorem c_L_comeBack {G : vG} (hG : G.1.stackTraces = false) {A : vN → Nat} {g : vS} {r : vH} (u : Int32) (hr : vNr r) (h8 : vI3 g) (hI : vI1 g) {o : Nat → Int64} (ho : r (91, 0) = some (vJ 1 o)) : vCtH G yL_comeBack cL_comeBack 4 (some .int) [(0, 9, 12, 21), (0, 9, 15, 15)] 7 [.ref (A (0, 0)), .int (u), .ref (A (91, 0))] A (w g r) (fun v A2 h2 => v = some (.int (K_L_comeBack (X_X11_comeBack g u))) ∧ vAs 32 32 A2 A ∧ h2 = w (S_X11_comeBack g u) (if X_X11_comeBack g u = 0 then vup r (91, 0) (vJ 1 (vp_updL o 0 ((V_X11_comeBack g u).toInt64))) else r)) 23 160 := by
  refine v_ofH hG (by decide +kernel) (Nat.le_of_ble_eq_true rfl) (lv := [(0, .ref (A (0, 0))), (1, .int (u)), (2, .ref (A (91, 0)))]) rfl (fun X C ht => ?_)
  have C : vC G X cL_comeBack 4 RL (some .int) "comeBack" 7 23 160 := C
  refine v_aload_n (pc := 0) C dL_comeBack_0 2 rfl rfl ?_
  refine v_iconst (v := 0) (pc := 1) C dL_comeBack_1 rfl ?_
  refine v_aload_n (pc := 2) C dL_comeBack_2 0 rfl rfl ?_
  refine v_iload_n (pc := 3) C dL_comeBack_3 1 rfl rfl ?_
  refine v_callV (pc := 4) C (0, 0) ck_0 rfl (c_X11_comeBack hG (g := g) u hr h8 hI) 1 wd_1277 wd_62 wd_1274 wd_1275 wd_1276 (by decide +kernel) (by decide) (by decide) rfl ([.int 0, .ref (A (91, 0))]) rfl (Nat.le_of_ble_eq_true rfl) ⟨Nat.le_of_eq (Nat.zero_add _), Nat.le_of_eq (Nat.zero_add _)⟩ dL_comeBack_4 (fun cls9 A_1 h9 hE9 => ?_) (fun v9 A_1 h9 hR9 => ?_)
  · obtain ⟨q9, rfl, hA9, rfl⟩ := hE9
    have e9 := E_X_X11_comeBack (g := g) (u := u)
    simp only [List.mem_cons, List.not_mem_nil, or_false] at e9
    rcases e9 with e9 | e9 | e9
    · exact absurd e9 q9
    · rw [show vEx (X_X11_comeBack g u) = "java/util/NoSuchElementException" from by rw [e9]; rfl]
      refine v_catch (name := "java/util/NoSuchElementException") C ht [] ⟨0, 9, 12, 21⟩ [⟨0, 9, 15, 15⟩] rfl (fun z hz => by cases hz) (by decide) (by decide) wd_505 cst_1 (fun q8 => ?_)
      refine v_astore_n (lv2 := [(3, .ref q8), (0, .ref (A (0, 0))), (1, .int (u)), (2, .ref (A (91, 0)))]) (pc := 12) C dL_comeBack_12 rfl (by decide) rfl ?_
      refine v_iconst (v := 1) (pc := 13) C dL_comeBack_13 rfl ?_
      exact v_iret (pc := 14) C (Nat.le_of_eq (Nat.zero_add _)) (Nat.le_of_eq (Nat.zero_add _)) dL_comeBack_14 ⟨by rw [e9]; rfl, hA9, by rw [if_neg q9]⟩
    · rw [show vEx (X_X11_comeBack g u) = "java/lang/IllegalStateException" from by rw [e9]; rfl]
      refine v_catch (name := "java/lang/IllegalStateException") C ht [⟨0, 9, 12, 21⟩] ⟨0, 9, 15, 15⟩ [] rfl (fun z hz => by simp only [List.mem_cons, List.not_mem_nil, or_false] at hz; rcases hz with rfl <;> first | exact ⟨by decide, "java/util/NoSuchElementException", wd_505, ncs_3_1⟩) (by decide) (by decide) wd_354 cst_3 (fun q8 => ?_)
      refine v_astore_n (lv2 := [(3, .ref q8), (0, .ref (A (0, 0))), (1, .int (u)), (2, .ref (A (91, 0)))]) (pc := 15) C dL_comeBack_15 rfl (by decide) rfl ?_
      refine v_iconst (v := 2) (pc := 16) C dL_comeBack_16 rfl ?_
      exact v_iret (pc := 17) C (Nat.le_of_eq (Nat.zero_add _)) (Nat.le_of_eq (Nat.zero_add _)) dL_comeBack_17 ⟨by rw [e9]; rfl, hA9, by rw [if_neg q9]⟩
  · obtain ⟨x9, rfl, hA9, rfl⟩ := hR9
    refine v_st (k2 := 0 + 23) (n2 := 0 + 160) (st2 := [.int (V_X11_comeBack g u), .int 0, .ref (A_1 (91, 0))]) rfl rfl (by rw [hA9 (91, 0) (Or.inr (Nat.le_of_ble_eq_true rfl))]; rfl) ?_
    refine v_i2l (pc := 7) C dL_comeBack_7 rfl ?_
    refine v_last (pc := 8) C (91, 0) ((w_at (by decide)).trans ho) (by simp only [vp_in_iff]; decide) dL_comeBack_8 ?_
    refine v_h (h2 := w (S_X11_comeBack g u) (vup r (91, 0) (vJ 1 (vp_updL o 0 ((V_X11_comeBack g u).toInt64))))) ((w_vup (by decide)).trans rfl) ?_
    refine v_goto (tgt := 18) (pc := 9) C dL_comeBack_9 (by decide) ?_
    refine v_iconst (v := 0) (pc := 18) C dL_comeBack_18 rfl ?_
    exact v_iret (pc := 19) C (Nat.le_of_eq (Nat.zero_add _)) (Nat.le_of_eq (Nat.zero_add _)) dL_comeBack_19 ⟨by rw [x9]; rfl, hA9, by rw [if_pos x9]⟩
set_option maxHeartbeats 4000000 in
set_option maxRecDepth 100000 in
theorem c_L_conflictAt {G : vG} (hG : G.1.stackTraces = false) {A : vN → Nat} {g : vS} {r : vH} (x : Int32) {o : Nat → Int64} (ho : r (91, 0) = some (vJ 1 o)) : vCtH G yL_conflictAt cL_conflictAt 4 (some .int) [(0, 9, 12, 94)] 1 [.ref (A (0, 0)), .int (x), .ref (A (91, 0))] A (w g r) (fun v A2 h2 => v = some (.int (K_L_conflictAt (X_X11_conflictAt g x))) ∧ vAs 1 0 A2 A ∧ h2 = w g (if X_X11_conflictAt g x = 0 then vup r (91, 0) (vJ 1 (vp_updL o 0 ((V_X11_conflictAt g x).toInt64))) else r)) 1 6 := by
  refine v_ofH hG (by decide +kernel) (Nat.le_of_ble_eq_true rfl) (lv := [(0, .ref (A (0, 0))), (1, .int (x)), (2, .ref (A (91, 0)))]) rfl (fun X C ht => ?_)
  have C : vC G X cL_conflictAt 4 RL (some .int) "conflictAt" 1 1 6 := C
  refine v_aload_n (pc := 0) C dL_conflictAt_0 2 rfl rfl ?_
  refine v_iconst (v := 0) (pc := 1) C dL_conflictAt_1 rfl ?_
  refine v_aload_n (pc := 2) C dL_conflictAt_2 0 rfl rfl ?_
  refine v_iload_n (pc := 3) C dL_conflictAt_3 1 rfl rfl ?_
  refine v_callV (pc := 4) C (0, 0) ck_0 rfl (c_X11_conflictAt hG (g := g) x ) 1 wd_1309 wd_62 wd_1306 wd_1307 wd_1308 (by decide +kernel) (by decide) (by decide) rfl ([.int 0, .ref (A (91, 0))]) rfl (Nat.le_of_ble_eq_true rfl) ⟨Nat.le_of_eq (Nat.zero_add _), Nat.le_of_eq (Nat.zero_add _)⟩ dL_conflictAt_4 (fun cls9 A_1 h9 hE9 => ?_) (fun v9 A_1 h9 hR9 => ?_)
  · obtain ⟨q9, rfl, hA9, rfl⟩ := hE9
    have e9 := E_X_X11_conflictAt (g := g) (x := x)
    simp only [List.mem_cons, List.not_mem_nil, or_false] at e9
    rcases e9 with e9 | e9
    · exact absurd e9 q9
    · rw [show vEx (X_X11_conflictAt g x) = "java/lang/IndexOutOfBoundsException" from by rw [e9]; rfl]
      refine v_catch (name := "java/lang/IndexOutOfBoundsException") C ht [] ⟨0, 9, 12, 94⟩ [] rfl (fun z hz => by cases hz) (by decide) (by decide) wd_971 cst_5 (fun q8 => ?_)
      refine v_astore_n (lv2 := [(3, .ref q8), (0, .ref (A (0, 0))), (1, .int (x)), (2, .ref (A (91, 0)))]) (pc := 12) C dL_conflictAt_12 rfl (by decide) rfl ?_
      refine v_iconst (v := 1) (pc := 13) C dL_conflictAt_13 rfl ?_
      exact v_iret (pc := 14) C (Nat.le_of_eq (Nat.zero_add _)) (Nat.le_of_eq (Nat.zero_add _)) dL_conflictAt_14 ⟨by rw [e9]; rfl, (hA9 ▸ vAs_r), by rw [if_neg q9]⟩
  · obtain ⟨x9, rfl, hA9, rfl⟩ := hR9
    refine v_st (k2 := 0 + 1) (n2 := 0 + 6) (st2 := [.int (V_X11_conflictAt g x), .int 0, .ref (A_1 (91, 0))]) rfl rfl (by rw [hA9]; rfl) ?_
    refine v_i2l (pc := 7) C dL_conflictAt_7 rfl ?_
    refine v_last (pc := 8) C (91, 0) ((w_at (by decide)).trans ho) (by simp only [vp_in_iff]; decide) dL_conflictAt_8 ?_
    refine v_h (h2 := w g (vup r (91, 0) (vJ 1 (vp_updL o 0 ((V_X11_conflictAt g x).toInt64))))) ((w_vup (by decide)).trans rfl) ?_
    refine v_goto (tgt := 15) (pc := 9) C dL_conflictAt_9 (by decide) ?_
    refine v_iconst (v := 0) (pc := 15) C dL_conflictAt_15 rfl ?_
    exact v_iret (pc := 16) C (Nat.le_of_eq (Nat.zero_add _)) (Nat.le_of_eq (Nat.zero_add _)) dL_conflictAt_16 ⟨by rw [x9]; rfl, (hA9 ▸ vAs_r), by rw [if_pos x9]⟩
set_option maxHeartbeats 4000000 in
set_option maxRecDepth 100000 in
theorem c_L_load {G : vG} (hG : G.1.stackTraces = false) {A : vN → Nat} {g : vS} {r : vH} (a : Int32) (hq : g 41 (a).toNatClampNeg 0 ≤ 40) (hI : vI1 g) {o : Nat → UInt64} (ho : r (92, 0) = some (vDb 1 o)) : vCtH G yL_load cL_load 4 (some .int) [(0, 9, 12, 21)] 4 [.ref (A (0, 0)), .int (a), .ref (A (92, 0))] A (w g r) (fun v A2 h2 => v = some (.int (K_L_load (X_X11_load g a))) ∧ vAs 1 0 A2 A ∧ h2 = w g (if X_X11_load g a = 0 then vup r (92, 0) (vDb 1 (vf_upd o 0 ((FP.f2d (V_X11_load g a))))) else r)) 1 6 := by
  refine v_ofH hG (by decide +kernel) (Nat.le_of_ble_eq_true rfl) (lv := [(0, .ref (A (0, 0))), (1, .int (a)), (2, .ref (A (92, 0)))]) rfl (fun X C ht => ?_)
  have C : vC G X cL_load 4 RL (some .int) "load" 4 1 6 := C
  refine v_aload_n (pc := 0) C dL_load_0 2 rfl rfl ?_
  refine v_iconst (v := 0) (pc := 1) C dL_load_1 rfl ?_
  refine v_aload_n (pc := 2) C dL_load_2 0 rfl rfl ?_
  refine v_iload_n (pc := 3) C dL_load_3 1 rfl rfl ?_
  refine v_callV (pc := 4) C (0, 0) ck_0 rfl (c_X11_load hG (g := g) a hq hI) 1 wd_1317 wd_62 wd_1314 wd_1315 wd_1316 (by decide +kernel) (by decide) (by decide) rfl ([.int 0, .ref (A (92, 0))]) rfl (Nat.le_of_ble_eq_true rfl) ⟨Nat.le_of_eq (Nat.zero_add _), Nat.le_of_eq (Nat.zero_add _)⟩ dL_load_4 (fun cls9 A_1 h9 hE9 => ?_) (fun v9 A_1 h9 hR9 => ?_)
  · obtain ⟨q9, rfl, hA9, rfl⟩ := hE9
    have e9 := E_X_X11_load (g := g) (a := a)
    simp only [List.mem_cons, List.not_mem_nil, or_false] at e9
    rcases e9 with e9 | e9
    · exact absurd e9 q9
    · rw [show vEx (X_X11_load g a) = "java/util/NoSuchElementException" from by rw [e9]; rfl]
      refine v_catch (name := "java/util/NoSuchElementException") C ht [] ⟨0, 9, 12, 21⟩ [] rfl (fun z hz => by cases hz) (by decide) (by decide) wd_505 cst_1 (fun q8 => ?_)
      refine v_astore_n (lv2 := [(3, .ref q8), (0, .ref (A (0, 0))), (1, .int (a)), (2, .ref (A (92, 0)))]) (pc := 12) C dL_load_12 rfl (by decide) rfl ?_
      refine v_iconst (v := 1) (pc := 13) C dL_load_13 rfl ?_
      exact v_iret (pc := 14) C (Nat.le_of_eq (Nat.zero_add _)) (Nat.le_of_eq (Nat.zero_add _)) dL_load_14 ⟨by rw [e9]; rfl, (hA9 ▸ vAs_r), by rw [if_neg q9]⟩
  · obtain ⟨x9, rfl, hA9, rfl⟩ := hR9
    refine v_st (k2 := 0 + 1) (n2 := 0 + 6) (st2 := [.float (V_X11_load g a), .int 0, .ref (A_1 (92, 0))]) rfl rfl (by rw [hA9]; rfl) ?_
    refine v_f2d (pc := 7) C dL_load_7 (fn64_f2d (nan_load hq)) ?_
    refine v_dast (pc := 8) C (92, 0) ((w_at (by decide)).trans ho) (by simp only [vp_in_iff]; decide) dL_load_8 ?_
    refine v_h (h2 := w g (vup r (92, 0) (vDb 1 (vf_upd o 0 ((FP.f2d (V_X11_load g a))))))) ((w_vup (by decide)).trans rfl) ?_
    refine v_goto (tgt := 15) (pc := 9) C dL_load_9 (by decide) ?_
    refine v_iconst (v := 0) (pc := 15) C dL_load_15 rfl ?_
    exact v_iret (pc := 16) C (Nat.le_of_eq (Nat.zero_add _)) (Nat.le_of_eq (Nat.zero_add _)) dL_load_16 ⟨by rw [x9]; rfl, (hA9 ▸ vAs_r), by rw [if_pos x9]⟩
set_option maxHeartbeats 4000000 in
set_option maxRecDepth 100000 in
theorem c_L_loadBits {G : vG} (hG : G.1.stackTraces = false) {A : vN → Nat} {g : vS} {r : vH} (a : Int32) (hq : g 41 (a).toNatClampNeg 0 ≤ 40) (hI : vI1 g) {o : Nat → Int64} (ho : r (91, 0) = some (vJ 1 o)) : vCtH G yL_loadBits cL_loadBits 4 (some .int) [(0, 9, 12, 21)] 4 [.ref (A (0, 0)), .int (a), .ref (A (91, 0))] A (w g r) (fun v A2 h2 => v = some (.int (K_L_loadBits (X_X11_loadBits g a))) ∧ vAs 1 0 A2 A ∧ h2 = w g (if X_X11_loadBits g a = 0 then vup r (91, 0) (vJ 1 (vp_updL o 0 ((V_X11_loadBits g a).toInt64))) else r)) 1 6 := by
  refine v_ofH hG (by decide +kernel) (Nat.le_of_ble_eq_true rfl) (lv := [(0, .ref (A (0, 0))), (1, .int (a)), (2, .ref (A (91, 0)))]) rfl (fun X C ht => ?_)
  have C : vC G X cL_loadBits 4 RL (some .int) "loadBits" 4 1 6 := C
  refine v_aload_n (pc := 0) C dL_loadBits_0 2 rfl rfl ?_
  refine v_iconst (v := 0) (pc := 1) C dL_loadBits_1 rfl ?_
  refine v_aload_n (pc := 2) C dL_loadBits_2 0 rfl rfl ?_
  refine v_iload_n (pc := 3) C dL_loadBits_3 1 rfl rfl ?_
  refine v_callV (pc := 4) C (0, 0) ck_0 rfl (c_X11_loadBits hG (g := g) a hq hI) 1 wd_1328 wd_62 wd_1325 wd_1326 wd_1327 (by decide +kernel) (by decide) (by decide) rfl ([.int 0, .ref (A (91, 0))]) rfl (Nat.le_of_ble_eq_true rfl) ⟨Nat.le_of_eq (Nat.zero_add _), Nat.le_of_eq (Nat.zero_add _)⟩ dL_loadBits_4 (fun cls9 A_1 h9 hE9 => ?_) (fun v9 A_1 h9 hR9 => ?_)
  · obtain ⟨q9, rfl, hA9, rfl⟩ := hE9
    have e9 := E_X_X11_loadBits (g := g) (a := a)
    simp only [List.mem_cons, List.not_mem_nil, or_false] at e9
    rcases e9 with e9 | e9
    · exact absurd e9 q9
    · rw [show vEx (X_X11_loadBits g a) = "java/util/NoSuchElementException" from by rw [e9]; rfl]
      refine v_catch (name := "java/util/NoSuchElementException") C ht [] ⟨0, 9, 12, 21⟩ [] rfl (fun z hz => by cases hz) (by decide) (by decide) wd_505 cst_1 (fun q8 => ?_)
      refine v_astore_n (lv2 := [(3, .ref q8), (0, .ref (A (0, 0))), (1, .int (a)), (2, .ref (A (91, 0)))]) (pc := 12) C dL_loadBits_12 rfl (by decide) rfl ?_
      refine v_iconst (v := 1) (pc := 13) C dL_loadBits_13 rfl ?_
      exact v_iret (pc := 14) C (Nat.le_of_eq (Nat.zero_add _)) (Nat.le_of_eq (Nat.zero_add _)) dL_loadBits_14 ⟨by rw [e9]; rfl, (hA9 ▸ vAs_r), by rw [if_neg q9]⟩
  · obtain ⟨x9, rfl, hA9, rfl⟩ := hR9
    refine v_st (k2 := 0 + 1) (n2 := 0 + 6) (st2 := [.int (V_X11_loadBits g a), .int 0, .ref (A_1 (91, 0))]) rfl rfl (by rw [hA9]; rfl) ?_
    refine v_i2l (pc := 7) C dL_loadBits_7 rfl ?_
    refine v_last (pc := 8) C (91, 0) ((w_at (by decide)).trans ho) (by simp only [vp_in_iff]; decide) dL_loadBits_8 ?_
    refine v_h (h2 := w g (vup r (91, 0) (vJ 1 (vp_updL o 0 ((V_X11_loadBits g a).toInt64))))) ((w_vup (by decide)).trans rfl) ?_
    refine v_goto (tgt := 15) (pc := 9) C dL_loadBits_9 (by decide) ?_
    refine v_iconst (v := 0) (pc := 15) C dL_loadBits_15 rfl ?_
    exact v_iret (pc := 16) C (Nat.le_of_eq (Nat.zero_add _)) (Nat.le_of_eq (Nat.zero_add _)) dL_loadBits_16 ⟨by rw [x9]; rfl, (hA9 ▸ vAs_r), by rw [if_pos x9]⟩
set_option maxHeartbeats 4000000 in
set_option maxRecDepth 100000 in
theorem c_L_meanTold {G : vG} (hG : G.1.stackTraces = false) {A : vN → Nat} {g : vS} {r : vH} (hm0 : 0 ≤ g 9 0 0) (hm : g 9 0 0 ≤ 512) {o : Nat → UInt64} (ho : r (92, 0) = some (vDb 1 o)) : vCtH G yL_meanTold cL_meanTold 3 (some .int) [(0, 7, 10, 170)] 2 [.ref (A (0, 0)), .ref (A (92, 0))] A (w g r) (fun v A2 h2 => v = some (.int (K_L_meanTold (X_X11_meanTold g))) ∧ vAs 1 0 A2 A ∧ h2 = w g (if X_X11_meanTold g = 0 then vup r (92, 0) (vDb 1 (vf_upd o 0 (V_X11_meanTold g))) else r)) 1 6 := by
  refine v_ofH hG (by decide +kernel) (Nat.le_of_ble_eq_true rfl) (lv := [(0, .ref (A (0, 0))), (1, .ref (A (92, 0)))]) rfl (fun X C ht => ?_)
  have C : vC G X cL_meanTold 3 RL (some .int) "meanTold" 2 1 6 := C
  refine v_aload_n (pc := 0) C dL_meanTold_0 1 rfl rfl ?_
  refine v_iconst (v := 0) (pc := 1) C dL_meanTold_1 rfl ?_
  refine v_aload_n (pc := 2) C dL_meanTold_2 0 rfl rfl ?_
  refine v_callV (pc := 3) C (0, 0) ck_0 rfl (c_X11_meanTold hG (g := g) hm0 hm) 0 wd_1353 wd_62 wd_1350 wd_1351 wd_1352 (by decide +kernel) (by decide) (by decide) rfl ([.int 0, .ref (A (92, 0))]) rfl (Nat.le_of_ble_eq_true rfl) ⟨Nat.le_of_eq (Nat.zero_add _), Nat.le_of_eq (Nat.zero_add _)⟩ dL_meanTold_3 (fun cls9 A_1 h9 hE9 => ?_) (fun v9 A_1 h9 hR9 => ?_)
  · obtain ⟨q9, rfl, hA9, rfl⟩ := hE9
    have e9 := E_X_X11_meanTold (g := g)
    simp only [List.mem_cons, List.not_mem_nil, or_false] at e9
    rcases e9 with e9 | e9
    · exact absurd e9 q9
    · rw [show vEx (X_X11_meanTold g) = "java/lang/ArithmeticException" from by rw [e9]; rfl]
      refine v_catch (name := "java/lang/ArithmeticException") C ht [] ⟨0, 7, 10, 170⟩ [] rfl (fun z hz => by cases hz) (by decide) (by decide) wd_1336 cst_6 (fun q8 => ?_)
      refine v_astore_n (lv2 := [(2, .ref q8), (0, .ref (A (0, 0))), (1, .ref (A (92, 0)))]) (pc := 10) C dL_meanTold_10 rfl (by decide) rfl ?_
      refine v_iconst (v := 1) (pc := 11) C dL_meanTold_11 rfl ?_
      exact v_iret (pc := 12) C (Nat.le_of_eq (Nat.zero_add _)) (Nat.le_of_eq (Nat.zero_add _)) dL_meanTold_12 ⟨by rw [e9]; rfl, (hA9 ▸ vAs_r), by rw [if_neg q9]⟩
  · obtain ⟨x9, rfl, hA9, rfl⟩ := hR9
    refine v_st (k2 := 0 + 1) (n2 := 0 + 6) (st2 := [.double (V_X11_meanTold g), .int 0, .ref (A_1 (92, 0))]) rfl rfl (by rw [hA9]; rfl) ?_
    refine v_dast (pc := 6) C (92, 0) ((w_at (by decide)).trans ho) (by simp only [vp_in_iff]; decide) dL_meanTold_6 ?_
    refine v_h (h2 := w g (vup r (92, 0) (vDb 1 (vf_upd o 0 (V_X11_meanTold g))))) ((w_vup (by decide)).trans rfl) ?_
    refine v_goto (tgt := 13) (pc := 7) C dL_meanTold_7 (by decide) ?_
    refine v_iconst (v := 0) (pc := 13) C dL_meanTold_13 rfl ?_
    exact v_iret (pc := 14) C (Nat.le_of_eq (Nat.zero_add _)) (Nat.le_of_eq (Nat.zero_add _)) dL_meanTold_14 ⟨by rw [x9]; rfl, (hA9 ▸ vAs_r), by rw [if_pos x9]⟩
set_option maxHeartbeats 4000000 in
set_option maxRecDepth 100000 in
theorem c_L_meanToldBits {G : vG} (hG : G.1.stackTraces = false) {A : vN → Nat} {g : vS} {r : vH} (hm0 : 0 ≤ g 9 0 0) (hm : g 9 0 0 ≤ 512) {o : Nat → Int64} (ho : r (91, 0) = some (vJ 1 o)) : vCtH G yL_meanToldBits cL_meanToldBits 3 (some .int) [(0, 7, 10, 170)] 2 [.ref (A (0, 0)), .ref (A (91, 0))] A (w g r) (fun v A2 h2 => v = some (.int (K_L_meanToldBits (X_X11_meanToldBits g))) ∧ vAs 1 0 A2 A ∧ h2 = w g (if X_X11_meanToldBits g = 0 then vup r (91, 0) (vJ 1 (vp_updL o 0 (V_X11_meanToldBits g))) else r)) 1 6 := by
  refine v_ofH hG (by decide +kernel) (Nat.le_of_ble_eq_true rfl) (lv := [(0, .ref (A (0, 0))), (1, .ref (A (91, 0)))]) rfl (fun X C ht => ?_)
  have C : vC G X cL_meanToldBits 3 RL (some .int) "meanToldBits" 2 1 6 := C
  refine v_aload_n (pc := 0) C dL_meanToldBits_0 1 rfl rfl ?_
  refine v_iconst (v := 0) (pc := 1) C dL_meanToldBits_1 rfl ?_
  refine v_aload_n (pc := 2) C dL_meanToldBits_2 0 rfl rfl ?_
  refine v_callV (pc := 3) C (0, 0) ck_0 rfl (c_X11_meanToldBits hG (g := g) hm0 hm) 0 wd_1367 wd_62 wd_1364 wd_1365 wd_1366 (by decide +kernel) (by decide) (by decide) rfl ([.int 0, .ref (A (91, 0))]) rfl (Nat.le_of_ble_eq_true rfl) ⟨Nat.le_of_eq (Nat.zero_add _), Nat.le_of_eq (Nat.zero_add _)⟩ dL_meanToldBits_3 (fun cls9 A_1 h9 hE9 => ?_) (fun v9 A_1 h9 hR9 => ?_)
  · obtain ⟨q9, rfl, hA9, rfl⟩ := hE9
    have e9 := E_X_X11_meanToldBits (g := g)
    simp only [List.mem_cons, List.not_mem_nil, or_false] at e9
    rcases e9 with e9 | e9
    · exact absurd e9 q9
    · rw [show vEx (X_X11_meanToldBits g) = "java/lang/ArithmeticException" from by rw [e9]; rfl]
      refine v_catch (name := "java/lang/ArithmeticException") C ht [] ⟨0, 7, 10, 170⟩ [] rfl (fun z hz => by cases hz) (by decide) (by decide) wd_1336 cst_6 (fun q8 => ?_)
      refine v_astore_n (lv2 := [(2, .ref q8), (0, .ref (A (0, 0))), (1, .ref (A (91, 0)))]) (pc := 10) C dL_meanToldBits_10 rfl (by decide) rfl ?_
      refine v_iconst (v := 1) (pc := 11) C dL_meanToldBits_11 rfl ?_
      exact v_iret (pc := 12) C (Nat.le_of_eq (Nat.zero_add _)) (Nat.le_of_eq (Nat.zero_add _)) dL_meanToldBits_12 ⟨by rw [e9]; rfl, (hA9 ▸ vAs_r), by rw [if_neg q9]⟩
  · obtain ⟨x9, rfl, hA9, rfl⟩ := hR9
    refine v_st (k2 := 0 + 1) (n2 := 0 + 6) (st2 := [.long (V_X11_meanToldBits g), .int 0, .ref (A_1 (91, 0))]) rfl rfl (by rw [hA9]; rfl) ?_
    refine v_last (pc := 6) C (91, 0) ((w_at (by decide)).trans ho) (by simp only [vp_in_iff]; decide) dL_meanToldBits_6 ?_
    refine v_h (h2 := w g (vup r (91, 0) (vJ 1 (vp_updL o 0 (V_X11_meanToldBits g))))) ((w_vup (by decide)).trans rfl) ?_
    refine v_goto (tgt := 13) (pc := 7) C dL_meanToldBits_7 (by decide) ?_
    refine v_iconst (v := 0) (pc := 13) C dL_meanToldBits_13 rfl ?_
    exact v_iret (pc := 14) C (Nat.le_of_eq (Nat.zero_add _)) (Nat.le_of_eq (Nat.zero_add _)) dL_meanToldBits_14 ⟨by rw [x9]; rfl, (hA9 ▸ vAs_r), by rw [if_pos x9]⟩
