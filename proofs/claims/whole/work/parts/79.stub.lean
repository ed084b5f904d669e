def Inv (t : Nat) (M : Mem) : Prop := t = t ∧ M = M
theorem Inv_next {t : Nat} {M : Mem} (h : Inv t M) : Inv (t + 1) M := sorry
theorem ok_field {t : Nat} {M : Mem} (ht : t < 512) (hI : Inv t M) (a1 : Int32) : ∃ v w, fX5_field a1 M = some v ∧ fX6_field a1 v.2 = some w ∧ v.1 = w.1 ∧ Inv (t + 1) w.2 := sorry
theorem ok_of {t : Nat} {M : Mem} (ht : t < 512) (hI : Inv t M) (a1 : Int32) (a2 : Int32) : ∃ v w, fX5_of a1 a2 M = some v ∧ fX6_of a1 a2 v.2 = some w ∧ v.1 = w.1 ∧ Inv (t + 1) w.2 := sorry
theorem ok_rough {t : Nat} {M : Mem} (ht : t < 512) (hI : Inv t M) (a1 : Int32) (a2 : Int32) : ∃ v w, fX5_rough a1 a2 M = some v ∧ fX6_rough a1 a2 v.2 = some w ∧ v.1 = w.1 ∧ Inv (t + 1) w.2 := sorry
theorem ok_glue {t : Nat} {M : Mem} (ht : t < 512) (hI : Inv t M) (a1 : Int32) (a2 : Int32) (a3 : Int32) (a4 : Int32) : ∃ v w, fX5_glue a1 a2 a3 a4 M = some v ∧ fX6_glue a1 a2 a3 a4 v.2 = some w ∧ v.1 = w.1 ∧ Inv (t + 1) w.2 := sorry
theorem ok_cut {t : Nat} {M : Mem} (ht : t < 512) (hI : Inv t M) (a1 : Int32) (a2 : Int32) : ∃ v w, fX5_cut a1 a2 M = some v ∧ fX6_cut a1 a2 v.2 = some w ∧ v.1 = w.1 ∧ Inv (t + 1) w.2 := sorry
theorem ok_over {t : Nat} {M : Mem} (ht : t < 512) (hI : Inv t M) (a1 : Int32) (a2 : Int32) : ∃ v w, fX5_over a1 a2 M = some v ∧ fX6_over a1 a2 v.2 = some w ∧ v.1 = w.1 ∧ Inv (t + 1) w.2 := sorry
theorem ok_walker {t : Nat} {M : Mem} (ht : t < 512) (hI : Inv t M) (a1 : Int32) (a2 : Int32) (a3 : Int32) : ∃ v w, fX5_walker a1 a2 a3 M = some v ∧ fX6_walker a1 a2 a3 v.2 = some w ∧ v.1 = w.1 ∧ Inv (t + 1) w.2 := sorry
theorem ok_its {t : Nat} {M : Mem} (ht : t < 512) (hI : Inv t M) (a1 : Int32) (a2 : Int32) : ∃ v w, fX5_its a1 a2 M = some v ∧ fX6_its a1 a2 v.2 = some w ∧ v.1 = w.1 ∧ Inv (t + 1) w.2 := sorry
theorem ok_place {t : Nat} {M : Mem} (ht : t < 512) (hI : Inv t M) (a1 : Int32) (a2 : Int32) (a3 : Int32) : ∃ v w, fX5_place a1 a2 a3 M = some v ∧ fX6_place a1 a2 a3 v.2 = some w ∧ v.1 = w.1 ∧ Inv (t + 1) w.2 := sorry
theorem ok_turn {t : Nat} {M : Mem} (ht : t < 512) (hI : Inv t M) (a1 : Int32) (a2 : Int32) : ∃ v w, fX5_turn a1 a2 M = some v ∧ fX6_turn a1 a2 v.2 = some w ∧ v.1 = w.1 ∧ Inv (t + 1) w.2 := sorry
theorem ok_as {t : Nat} {M : Mem} (ht : t < 512) (hI : Inv t M) (a1 : Int32) (a2 : Int32) : ∃ v w, fX5_as a1 a2 M = some v ∧ fX6_as a1 a2 v.2 = some w ∧ v.1 = w.1 ∧ Inv (t + 1) w.2 := sorry
theorem ok_step {t : Nat} {M : Mem} (ht : t < 512) (hI : Inv t M) (a1 : Int32) : ∃ v w, fX5_step a1 M = some v ∧ fX6_step a1 v.2 = some w ∧ v.1 = w.1 ∧ Inv (t + 1) w.2 := sorry
theorem ok_steps {t : Nat} {M : Mem} (ht : t < 512) (hI : Inv t M) (a1 : Int32) : ∃ v w, fX5_steps a1 M = some v ∧ fX6_steps a1 v.2 = some w ∧ v.1 = w.1 ∧ Inv (t + 1) w.2 := sorry
theorem ok_on {t : Nat} {M : Mem} (ht : t < 512) (hI : Inv t M) (a1 : Int32) (a2 : Int32) (a3 : Int32) : ∃ v w, fX5_on a1 a2 a3 M = some v ∧ fX6_on a1 a2 a3 v.2 = some w ∧ v.1 = w.1 ∧ Inv (t + 1) w.2 := sorry
theorem ok_when {t : Nat} {M : Mem} (ht : t < 512) (hI : Inv t M) (a1 : Int32) (a2 : Int32) : ∃ v w, fX5_when a1 a2 M = some v ∧ fX6_when a1 a2 v.2 = some w ∧ v.1 = w.1 ∧ Inv (t + 1) w.2 := sorry
theorem ok_back {t : Nat} {M : Mem} (ht : t < 512) (hI : Inv t M) (a1 : Int32) : ∃ v w, fX5_back a1 M = some v ∧ fX6_back a1 v.2 = some w ∧ v.1 = w.1 ∧ Inv (t + 1) w.2 := sorry
theorem ok_meet {t : Nat} {M : Mem} (ht : t < 512) (hI : Inv t M) (a1 : Int32) (a2 : Int32) : ∃ v w, fX5_meet a1 a2 M = some v ∧ fX6_meet a1 a2 v.2 = some w ∧ v.1 = w.1 ∧ Inv (t + 1) w.2 := sorry
theorem ok_spares {t : Nat} {M : Mem} (ht : t < 512) (hI : Inv t M) (a1 : Int32) : ∃ v w, fX5_spares a1 M = some v ∧ fX6_spares a1 v.2 = some w ∧ v.1 = w.1 ∧ Inv (t + 1) w.2 := sorry
theorem ok_closes {t : Nat} {M : Mem} (ht : t < 512) (hI : Inv t M) (a1 : Int32) (a2 : Int32) : ∃ v w, fX5_closes a1 a2 M = some v ∧ fX6_closes a1 a2 v.2 = some w ∧ v.1 = w.1 ∧ Inv (t + 1) w.2 := sorry
theorem ok_bumps {t : Nat} {M : Mem} (ht : t < 512) (hI : Inv t M) (a1 : Int32) (a2 : Int32) : ∃ v w, fX5_bumps a1 a2 M = some v ∧ fX6_bumps a1 a2 v.2 = some w ∧ v.1 = w.1 ∧ Inv (t + 1) w.2 := sorry
theorem ok_square {t : Nat} {M : Mem} (ht : t < 512) (hI : Inv t M) (a1 : Int32) (a2 : Int32) (a3 : Int32) : ∃ v w, fX5_square a1 a2 a3 M = some v ∧ fX6_square a1 a2 a3 v.2 = some w ∧ v.1 = w.1 ∧ Inv (t + 1) w.2 := sorry
theorem ok_dine {t : Nat} {M : Mem} (ht : t < 512) (hI : Inv t M) (a1 : Int32) (a2 : Int32) (a3 : Int32) (a4 : Int32) : ∃ v w, fX5_dine a1 a2 a3 a4 M = some v ∧ fX6_dine a1 a2 a3 a4 v.2 = some w ∧ v.1 = w.1 ∧ Inv (t + 1) w.2 := sorry
theorem ok_sees {t : Nat} {M : Mem} (ht : t < 512) (hI : Inv t M) (a1 : Int32) (a2 : Int32) : ∃ v w, fX5_sees a1 a2 M = some v ∧ fX6_sees a1 a2 v.2 = some w ∧ v.1 = w.1 ∧ Inv (t + 1) w.2 := sorry
theorem ok_twice {t : Nat} {M : Mem} (ht : t < 512) (hI : Inv t M) (a1 : Int32) : ∃ v w, fX5_twice a1 M = some v ∧ fX6_twice a1 v.2 = some w ∧ v.1 = w.1 ∧ Inv (t + 1) w.2 := sorry
theorem ok_about {t : Nat} {M : Mem} (ht : t < 512) (hI : Inv t M) (a1 : Int32) (a2 : Int32) : ∃ v w, fX5_about a1 a2 M = some v ∧ fX6_about a1 a2 v.2 = some w ∧ v.1 = w.1 ∧ Inv (t + 1) w.2 := sorry
theorem ok_corners {t : Nat} {M : Mem} (ht : t < 512) (hI : Inv t M) : ∃ v w, fX5_corners M = some v ∧ fX6_corners M = some w ∧ v = w ∧ Inv (t + 1) M := sorry
theorem ok_excess {t : Nat} {M : Mem} (ht : t < 512) (hI : Inv t M) : ∃ v w, fX5_excess M = some v ∧ fX6_excess M = some w ∧ v = w ∧ Inv (t + 1) M := sorry
theorem ok_bent {t : Nat} {M : Mem} (ht : t < 512) (hI : Inv t M) : ∃ v w, fX5_bent M = some v ∧ fX6_bent M = some w ∧ v = w ∧ Inv (t + 1) M := sorry
theorem ok_parts {t : Nat} {M : Mem} (ht : t < 512) (hI : Inv t M) : ∃ v w, fX5_parts M = some v ∧ fX6_parts v.2 = some w ∧ v.1 = w ∧ Inv (t + 1) v.2 := sorry
theorem ok_far {t : Nat} {M : Mem} (ht : t < 512) (hI : Inv t M) (a1 : Int32) (a2 : Int32) : ∃ v w, fX5_far a1 a2 M = some v ∧ fX6_far a1 a2 v.2 = some w ∧ v.1 = w.1 ∧ Inv (t + 1) w.2 := sorry
theorem ok_smooth {t : Nat} {M : Mem} (ht : t < 512) (hI : Inv t M) (a1 : Int32) (a2 : Int32) : ∃ v w, fX5_smooth a1 a2 M = some v ∧ fX6_smooth a1 a2 v.2 = some w ∧ v.1 = w.1 ∧ Inv (t + 1) w.2 := sorry
theorem ok_turns {t : Nat} {M : Mem} (ht : t < 512) (hI : Inv t M) (a1 : Int32) (a2 : Int32) (a3 : Int32) : ∃ v w, fX5_turns a1 a2 a3 M = some v ∧ fX6_turns a1 a2 a3 v.2 = some w ∧ v.1 = w.1 ∧ Inv (t + 1) w.2 := sorry
theorem ok_within {t : Nat} {M : Mem} (ht : t < 512) (hI : Inv t M) (a1 : Int32) (a2 : Int32) : ∃ v w, fX5_within a1 a2 M = some v ∧ fX6_within a1 a2 v.2 = some w ∧ v.1 = w.1 ∧ Inv (t + 1) w.2 := sorry
theorem ok_mends {t : Nat} {M : Mem} (ht : t < 512) (hI : Inv t M) (a1 : Int32) (a2 : Int32) : ∃ v w, fX5_mends a1 a2 M = some v ∧ fX6_mends a1 a2 v.2 = some w ∧ v.1 = w.1 ∧ Inv (t + 1) w.2 := sorry
theorem ok_feed {t : Nat} {M : Mem} (ht : t < 512) (hI : Inv t M) (a1 : Int32) (a2 : Int32) : ∃ v w, fX5_feed a1 a2 M = some v ∧ fX6_feed a1 a2 v.2 = some w ∧ v.1 = w.1 ∧ Inv (t + 1) w.2 := sorry
theorem ok_wipe {t : Nat} {M : Mem} (ht : t < 512) (hI : Inv t M) : ∃ v w, fX5_wipe M = some v ∧ fX6_wipe v.2 = some w ∧ v.1 = w.1 ∧ Inv (t + 1) w.2 := sorry
theorem ok_plain {t : Nat} {M : Mem} (ht : t < 512) (hI : Inv t M) : ∃ v w, fX5_plain M = some v ∧ fX6_plain v.2 = some w ∧ v.1 = w.1 ∧ Inv (t + 1) w.2 := sorry
theorem ok_sheet {t : Nat} {M : Mem} (ht : t < 512) (hI : Inv t M) (a1 : Int32) (a2 : Int32) (a3 : Int32) : ∃ v w, fX5_sheet a1 a2 a3 M = some v ∧ fX6_sheet a1 a2 a3 v.2 = some w ∧ v.1 = w.1 ∧ Inv (t + 1) w.2 := sorry
theorem ok_write {t : Nat} {M : Mem} (ht : t < 512) (hI : Inv t M) (a1 : Int32) (a2 : Int32) (a3 : Int64) : ∃ v w, fX5_write a1 a2 a3 M = some v ∧ fX6_write a1 a2 a3 v.2 = some w ∧ v.1 = w.1 ∧ Inv (t + 1) w.2 := sorry
theorem ok_copy {t : Nat} {M : Mem} (ht : t < 512) (hI : Inv t M) (a1 : Int32) (a2 : Int32) (a3 : Int32) (a4 : Int32) (a5 : Int32) : ∃ v w, fX5_copy a1 a2 a3 a4 a5 M = some v ∧ fX6_copy a1 a2 a3 a4 a5 v.2 = some w ∧ v.1 = w.1 ∧ Inv (t + 1) w.2 := sorry
theorem ok_lays {t : Nat} {M : Mem} (ht : t < 512) (hI : Inv t M) (a1 : Int32) : ∃ v w, fX5_lays a1 M = some v ∧ fX6_lays a1 v.2 = some w ∧ v.1 = w.1 ∧ Inv (t + 1) w.2 := sorry
theorem ok_book {t : Nat} {M : Mem} (ht : t < 512) (hI : Inv t M) (a1 : Int32) (a2 : Int32) : ∃ v w, fX5_book a1 a2 M = some v ∧ fX6_book a1 a2 v.2 = some w ∧ v.1 = w.1 ∧ Inv (t + 1) w.2 := sorry
theorem ok_read {t : Nat} {M : Mem} (ht : t < 512) (hI : Inv t M) (a1 : Int32) (a2 : Int32) : ∃ v w, fX5_read a1 a2 M = some v ∧ fX6_read a1 a2 v.2 = some w ∧ v.1 = w.1 ∧ Inv (t + 1) w.2 := sorry
theorem ok_image {t : Nat} {M : Mem} (ht : t < 512) (hI : Inv t M) : ∃ v w, fX5_image M = some v ∧ fX6_image v.2 = some w ∧ v.1 = w.1 ∧ Inv (t + 1) w.2 := sorry
theorem ok_undo {t : Nat} {M : Mem} (ht : t < 512) (hI : Inv t M) : ∃ v w, fX5_undo M = some v ∧ fX6_undo v.2 = some w ∧ v.1 = w.1 ∧ Inv (t + 1) w.2 := sorry
theorem ok_tear {t : Nat} {M : Mem} (ht : t < 512) (hI : Inv t M) : ∃ v w, fX5_tear M = some v ∧ fX6_tear v.2 = some w ∧ v.1 = w.1 ∧ Inv (t + 1) w.2 := sorry
theorem ok_count {t : Nat} {M : Mem} (ht : t < 512) (hI : Inv t M) (a1 : Int32) : ∃ v w, fX5_count a1 M = some v ∧ fX6_count a1 v.2 = some w ∧ v.1 = w.1 ∧ Inv (t + 1) w.2 := sorry
theorem ok_status {t : Nat} {M : Mem} (ht : t < 512) (hI : Inv t M) (a1 : Int32) : ∃ v w, fX5_status a1 M = some v ∧ fX6_status a1 v.2 = some w ∧ v.1 = w.1 ∧ Inv (t + 1) w.2 := sorry
