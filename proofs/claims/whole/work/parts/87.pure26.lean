/-! what the reference answers looks at its own places alone -/
def mg (C A : zM) : zM := fun i => if i < 82 then C i else A i
theorem mg_hi {C A : zM} {i : Nat} (h : 82 ≤ i) : mg C A i = A i := if_neg (by omega)
theorem mg_lo {C A : zM} {i : Nat} (h : i < 82) : mg C A i = C i := if_pos h
theorem mg_va {C A : zM} {i : Nat} {f : Nat → Int32} (h : 82 ≤ i) : va_up (mg C A) i f = mg C (va_up A i f) := by
  funext j
  by_cases q : j = i
  · subst q; rw [va_up_self, mg_hi h, va_up_self]
  · rw [va_up_ne _ _ q]
    unfold mg
    rw [va_up_ne _ _ q]
theorem mg_zu {C A : zM} {i k : Nat} {v : Int32} (h : 82 ≤ i) : zu (mg C A) i k v = mg C (zu A i k v) := by
  unfold zu; rw [mg_va h, mg_hi h]
theorem mg_er {C A : zM} {k : Nat} : zEr (mg C A) k = mg C (zEr A k) := by
  unfold zEr; rw [mg_zu (by decide), mg_hi (by decide)]
theorem mg_vo {C A : zM} {l : List Int32} : vo_M (mg C A) l = mg C (vo_M A l) := by
  unfold vo_M; rw [mg_zu (by decide), mg_va (by decide), mg_hi (by decide)]
theorem mg_sh {C A : zM} {s : Nat} : sh_n (mg C A) s = sh_n A s := by unfold sh_n; rw [mg_hi (by decide)]
theorem mg_nmv {C A : zM} {s i u j n : Int32} : sq_nmv (mg C A) s i u j n = sq_nmv A s i u j n := by
  unfold sq_nmv; rw [mg_hi (show 82 ≤ 87 by decide), mg_hi (show 82 ≤ 88 by decide)]
theorem mg_of {C A : zM} (h : zHi A C) : C = mg C A := by
  funext j
  unfold mg
  by_cases q : j < 82
  · rw [if_pos q]
  · rw [if_neg q]; exact h j (by omega)
theorem mg_82 {C A : zM} : mg C A 82 = A 82 := mg_hi (by decide)
theorem mv_82 {C A : zM} {f : Nat → Int32} : va_up (mg C A) 82 f = mg C (va_up A 82 f) := mg_va (by decide)
theorem mz_82 {C A : zM} {k : Nat} {v : Int32} : zu (mg C A) 82 k v = mg C (zu A 82 k v) := mg_zu (by decide)
theorem mg_83 {C A : zM} : mg C A 83 = A 83 := mg_hi (by decide)
theorem mv_83 {C A : zM} {f : Nat → Int32} : va_up (mg C A) 83 f = mg C (va_up A 83 f) := mg_va (by decide)
theorem mz_83 {C A : zM} {k : Nat} {v : Int32} : zu (mg C A) 83 k v = mg C (zu A 83 k v) := mg_zu (by decide)
theorem mg_84 {C A : zM} : mg C A 84 = A 84 := mg_hi (by decide)
theorem mv_84 {C A : zM} {f : Nat → Int32} : va_up (mg C A) 84 f = mg C (va_up A 84 f) := mg_va (by decide)
theorem mz_84 {C A : zM} {k : Nat} {v : Int32} : zu (mg C A) 84 k v = mg C (zu A 84 k v) := mg_zu (by decide)
theorem mg_85 {C A : zM} : mg C A 85 = A 85 := mg_hi (by decide)
theorem mv_85 {C A : zM} {f : Nat → Int32} : va_up (mg C A) 85 f = mg C (va_up A 85 f) := mg_va (by decide)
theorem mz_85 {C A : zM} {k : Nat} {v : Int32} : zu (mg C A) 85 k v = mg C (zu A 85 k v) := mg_zu (by decide)
theorem mg_86 {C A : zM} : mg C A 86 = A 86 := mg_hi (by decide)
theorem mv_86 {C A : zM} {f : Nat → Int32} : va_up (mg C A) 86 f = mg C (va_up A 86 f) := mg_va (by decide)
theorem mz_86 {C A : zM} {k : Nat} {v : Int32} : zu (mg C A) 86 k v = mg C (zu A 86 k v) := mg_zu (by decide)
theorem mg_87 {C A : zM} : mg C A 87 = A 87 := mg_hi (by decide)
theorem mv_87 {C A : zM} {f : Nat → Int32} : va_up (mg C A) 87 f = mg C (va_up A 87 f) := mg_va (by decide)
theorem mz_87 {C A : zM} {k : Nat} {v : Int32} : zu (mg C A) 87 k v = mg C (zu A 87 k v) := mg_zu (by decide)
theorem mg_88 {C A : zM} : mg C A 88 = A 88 := mg_hi (by decide)
theorem mv_88 {C A : zM} {f : Nat → Int32} : va_up (mg C A) 88 f = mg C (va_up A 88 f) := mg_va (by decide)
theorem mz_88 {C A : zM} {k : Nat} {v : Int32} : zu (mg C A) 88 k v = mg C (zu A 88 k v) := mg_zu (by decide)
theorem mg_89 {C A : zM} : mg C A 89 = A 89 := mg_hi (by decide)
theorem mv_89 {C A : zM} {f : Nat → Int32} : va_up (mg C A) 89 f = mg C (va_up A 89 f) := mg_va (by decide)
theorem mz_89 {C A : zM} {k : Nat} {v : Int32} : zu (mg C A) 89 k v = mg C (zu A 89 k v) := mg_zu (by decide)
theorem mg_90 {C A : zM} : mg C A 90 = A 90 := mg_hi (by decide)
theorem mv_90 {C A : zM} {f : Nat → Int32} : va_up (mg C A) 90 f = mg C (va_up A 90 f) := mg_va (by decide)
theorem mz_90 {C A : zM} {k : Nat} {v : Int32} : zu (mg C A) 90 k v = mg C (zu A 90 k v) := mg_zu (by decide)
theorem mg_91 {C A : zM} : mg C A 91 = A 91 := mg_hi (by decide)
theorem mv_91 {C A : zM} {f : Nat → Int32} : va_up (mg C A) 91 f = mg C (va_up A 91 f) := mg_va (by decide)
theorem mz_91 {C A : zM} {k : Nat} {v : Int32} : zu (mg C A) 91 k v = mg C (zu A 91 k v) := mg_zu (by decide)
theorem mg_92 {C A : zM} : mg C A 92 = A 92 := mg_hi (by decide)
theorem mv_92 {C A : zM} {f : Nat → Int32} : va_up (mg C A) 92 f = mg C (va_up A 92 f) := mg_va (by decide)
theorem mz_92 {C A : zM} {k : Nat} {v : Int32} : zu (mg C A) 92 k v = mg C (zu A 92 k v) := mg_zu (by decide)
theorem mg_93 {C A : zM} : mg C A 93 = A 93 := mg_hi (by decide)
theorem mv_93 {C A : zM} {f : Nat → Int32} : va_up (mg C A) 93 f = mg C (va_up A 93 f) := mg_va (by decide)
theorem mz_93 {C A : zM} {k : Nat} {v : Int32} : zu (mg C A) 93 k v = mg C (zu A 93 k v) := mg_zu (by decide)
theorem mg_94 {C A : zM} : mg C A 94 = A 94 := mg_hi (by decide)
theorem mv_94 {C A : zM} {f : Nat → Int32} : va_up (mg C A) 94 f = mg C (va_up A 94 f) := mg_va (by decide)
theorem mz_94 {C A : zM} {k : Nat} {v : Int32} : zu (mg C A) 94 k v = mg C (zu A 94 k v) := mg_zu (by decide)
theorem sq_fence_mg (C A : zM) (km : Int32) (hd : Int32) : sq_fence (mg C A) km hd = ((sq_fence A km hd).1, mg C (sq_fence A km hd).2) := by
  unfold sq_fence
  simp only [mg_er, mg_vo, mg_sh, mg_nmv, mg_82, mv_82, mz_82, mg_83, mv_83, mz_83, mg_84, mv_84, mz_84, mg_85, mv_85, mz_85, mg_86, mv_86, mz_86, mg_87, mv_87, mz_87, mg_88, mv_88, mz_88, mg_89, mv_89, mz_89, mg_90, mv_90, mz_90, mg_91, mv_91, mz_91, mg_92, mv_92, mz_92, mg_93, mv_93, mz_93, mg_94, mv_94, mz_94]
  all_goals ((repeat' split) <;> rfl)
theorem sq_at_mg (C A : zM) (f : Int32) (p : Int32) : sq_at (mg C A) f p = ((sq_at A f p).1, mg C (sq_at A f p).2) := by
  unfold sq_at
  simp only [mg_er, mg_vo, mg_sh, mg_nmv, mg_82, mv_82, mz_82, mg_83, mv_83, mz_83, mg_84, mv_84, mz_84, mg_85, mv_85, mz_85, mg_86, mv_86, mz_86, mg_87, mv_87, mz_87, mg_88, mv_88, mz_88, mg_89, mv_89, mz_89, mg_90, mv_90, mz_90, mg_91, mv_91, mz_91, mg_92, mv_92, mz_92, mg_93, mv_93, mz_93, mg_94, mv_94, mz_94]
  all_goals ((repeat' split) <;> rfl)
theorem sq_heads_mg (C A : zM) (f : Int32) (p : Int32) : sq_heads (mg C A) f p = ((sq_heads A f p).1, mg C (sq_heads A f p).2) := by
  unfold sq_heads
  simp only [mg_er, mg_vo, mg_sh, mg_nmv, mg_82, mv_82, mz_82, mg_83, mv_83, mz_83, mg_84, mv_84, mz_84, mg_85, mv_85, mz_85, mg_86, mv_86, mz_86, mg_87, mv_87, mz_87, mg_88, mv_88, mz_88, mg_89, mv_89, mz_89, mg_90, mv_90, mz_90, mg_91, mv_91, mz_91, mg_92, mv_92, mz_92, mg_93, mv_93, mz_93, mg_94, mv_94, mz_94]
  all_goals ((repeat' split) <;> rfl)
theorem sq_become_mg (C A : zM) (f : Int32) (km : Int32) : sq_become (mg C A) f km = ((sq_become A f km).1, mg C (sq_become A f km).2) := by
  unfold sq_become
  simp only [mg_er, mg_vo, mg_sh, mg_nmv, mg_82, mv_82, mz_82, mg_83, mv_83, mz_83, mg_84, mv_84, mz_84, mg_85, mv_85, mz_85, mg_86, mv_86, mz_86, mg_87, mv_87, mz_87, mg_88, mv_88, mz_88, mg_89, mv_89, mz_89, mg_90, mv_90, mz_90, mg_91, mv_91, mz_91, mg_92, mv_92, mz_92, mg_93, mv_93, mz_93, mg_94, mv_94, mz_94]
  all_goals ((repeat' split) <;> rfl)
theorem sq_turn_mg (C A : zM) (f : Int32) (hd : Int32) : sq_turn (mg C A) f hd = ((sq_turn A f hd).1, mg C (sq_turn A f hd).2) := by
  unfold sq_turn
  simp only [mg_er, mg_vo, mg_sh, mg_nmv, mg_82, mv_82, mz_82, mg_83, mv_83, mz_83, mg_84, mv_84, mz_84, mg_85, mv_85, mz_85, mg_86, mv_86, mz_86, mg_87, mv_87, mz_87, mg_88, mv_88, mz_88, mg_89, mv_89, mz_89, mg_90, mv_90, mz_90, mg_91, mv_91, mz_91, mg_92, mv_92, mz_92, mg_93, mv_93, mz_93, mg_94, mv_94, mz_94]
  all_goals ((repeat' split) <;> rfl)
theorem sq_as_mg (C A : zM) (f : Int32) (kd : Int32) : sq_as (mg C A) f kd = ((sq_as A f kd).1, mg C (sq_as A f kd).2) := by
  unfold sq_as
  simp only [mg_er, mg_vo, mg_sh, mg_nmv, mg_82, mv_82, mz_82, mg_83, mv_83, mz_83, mg_84, mv_84, mz_84, mg_85, mv_85, mz_85, mg_86, mv_86, mz_86, mg_87, mv_87, mz_87, mg_88, mv_88, mz_88, mg_89, mv_89, mz_89, mg_90, mv_90, mz_90, mg_91, mv_91, mz_91, mg_92, mv_92, mz_92, mg_93, mv_93, mz_93, mg_94, mv_94, mz_94]
  all_goals ((repeat' split) <;> rfl)
theorem sq_post_mg (C A : zM) (f : Int32) (c : Int32) : sq_post (mg C A) f c = ((sq_post A f c).1, mg C (sq_post A f c).2) := by
  unfold sq_post
  simp only [mg_er, mg_vo, mg_sh, mg_nmv, mg_82, mv_82, mz_82, mg_83, mv_83, mz_83, mg_84, mv_84, mz_84, mg_85, mv_85, mz_85, mg_86, mv_86, mz_86, mg_87, mv_87, mz_87, mg_88, mv_88, mz_88, mg_89, mv_89, mz_89, mg_90, mv_90, mz_90, mg_91, mv_91, mz_91, mg_92, mv_92, mz_92, mg_93, mv_93, mz_93, mg_94, mv_94, mz_94]
  all_goals ((repeat' split) <;> rfl)
theorem sq_cut_mg (C A : zM) (f : Int32) : sq_cut (mg C A) f = ((sq_cut A f).1, mg C (sq_cut A f).2) := by
  unfold sq_cut
  simp only [mg_er, mg_vo, mg_sh, mg_nmv, mg_82, mv_82, mz_82, mg_83, mv_83, mz_83, mg_84, mv_84, mz_84, mg_85, mv_85, mz_85, mg_86, mv_86, mz_86, mg_87, mv_87, mz_87, mg_88, mv_88, mz_88, mg_89, mv_89, mz_89, mg_90, mv_90, mz_90, mg_91, mv_91, mz_91, mg_92, mv_92, mz_92, mg_93, mv_93, mz_93, mg_94, mv_94, mz_94]
  all_goals ((repeat' split) <;> rfl)
theorem sq_lay_mg (C A : zM) (w : Int32) (c : Int32) (is : Int32) : sq_lay (mg C A) w c is = ((sq_lay A w c is).1, mg C (sq_lay A w c is).2) := by
  unfold sq_lay
  simp only [mg_er, mg_vo, mg_sh, mg_nmv, mg_82, mv_82, mz_82, mg_83, mv_83, mz_83, mg_84, mv_84, mz_84, mg_85, mv_85, mz_85, mg_86, mv_86, mz_86, mg_87, mv_87, mz_87, mg_88, mv_88, mz_88, mg_89, mv_89, mz_89, mg_90, mv_90, mz_90, mg_91, mv_91, mz_91, mg_92, mv_92, mz_92, mg_93, mv_93, mz_93, mg_94, mv_94, mz_94]
  all_goals ((repeat' split) <;> rfl)
theorem sq_cow_mg (C A : zM) (c : Int32) : sq_cow (mg C A) c = ((sq_cow A c).1, mg C (sq_cow A c).2) := by
  unfold sq_cow
  simp only [mg_er, mg_vo, mg_sh, mg_nmv, mg_82, mv_82, mz_82, mg_83, mv_83, mz_83, mg_84, mv_84, mz_84, mg_85, mv_85, mz_85, mg_86, mv_86, mz_86, mg_87, mv_87, mz_87, mg_88, mv_88, mz_88, mg_89, mv_89, mz_89, mg_90, mv_90, mz_90, mg_91, mv_91, mz_91, mg_92, mv_92, mz_92, mg_93, mv_93, mz_93, mg_94, mv_94, mz_94]
  all_goals ((repeat' split) <;> rfl)
theorem sq_drive_mg (C A : zM) (w : Int32) (c : Int32) : sq_drive (mg C A) w c = ((sq_drive A w c).1, mg C (sq_drive A w c).2) := by
  unfold sq_drive
  simp only [mg_er, mg_vo, mg_sh, mg_nmv, mg_82, mv_82, mz_82, mg_83, mv_83, mz_83, mg_84, mv_84, mz_84, mg_85, mv_85, mz_85, mg_86, mv_86, mz_86, mg_87, mv_87, mz_87, mg_88, mv_88, mz_88, mg_89, mv_89, mz_89, mg_90, mv_90, mz_90, mg_91, mv_91, mz_91, mg_92, mv_92, mz_92, mg_93, mv_93, mz_93, mg_94, mv_94, mz_94]
  all_goals ((repeat' split) <;> rfl)
theorem sq_untell_mg (C A : zM) (u : Int32) : sq_untell (mg C A) u = ((sq_untell A u).1, mg C (sq_untell A u).2) := by
  unfold sq_untell
  simp only [mg_er, mg_vo, mg_sh, mg_nmv, mg_82, mv_82, mz_82, mg_83, mv_83, mz_83, mg_84, mv_84, mz_84, mg_85, mv_85, mz_85, mg_86, mv_86, mz_86, mg_87, mv_87, mz_87, mg_88, mv_88, mz_88, mg_89, mv_89, mz_89, mg_90, mv_90, mz_90, mg_91, mv_91, mz_91, mg_92, mv_92, mz_92, mg_93, mv_93, mz_93, mg_94, mv_94, mz_94]
  all_goals ((repeat' split) <;> rfl)
theorem sq_seed_mg (C A : zM) (v : Int32) : sq_seed (mg C A) v = ((sq_seed A v).1, mg C (sq_seed A v).2) := by
  unfold sq_seed
  simp only [mg_er, mg_vo, mg_sh, mg_nmv, mg_82, mv_82, mz_82, mg_83, mv_83, mz_83, mg_84, mv_84, mz_84, mg_85, mv_85, mz_85, mg_86, mv_86, mz_86, mg_87, mv_87, mz_87, mg_88, mv_88, mz_88, mg_89, mv_89, mz_89, mg_90, mv_90, mz_90, mg_91, mv_91, mz_91, mg_92, mv_92, mz_92, mg_93, mv_93, mz_93, mg_94, mv_94, mz_94]
  all_goals ((repeat' split) <;> rfl)
theorem sq_land_mg (C A : zM) (f : Int32) (w : Int32) : sq_land (mg C A) f w = ((sq_land A f w).1, mg C (sq_land A f w).2) := by
  unfold sq_land
  simp only [mg_er, mg_vo, mg_sh, mg_nmv, mg_82, mv_82, mz_82, mg_83, mv_83, mz_83, mg_84, mv_84, mz_84, mg_85, mv_85, mz_85, mg_86, mv_86, mz_86, mg_87, mv_87, mz_87, mg_88, mv_88, mz_88, mg_89, mv_89, mz_89, mg_90, mv_90, mz_90, mg_91, mv_91, mz_91, mg_92, mv_92, mz_92, mg_93, mv_93, mz_93, mg_94, mv_94, mz_94]
  all_goals ((repeat' split) <;> rfl)
theorem sq_count_mg (C A : zM) (w : Int32) : sq_count (mg C A) w = ((sq_count A w).1, mg C (sq_count A w).2) := by
  unfold sq_count
  simp only [mg_er, mg_vo, mg_sh, mg_nmv, mg_82, mv_82, mz_82, mg_83, mv_83, mz_83, mg_84, mv_84, mz_84, mg_85, mv_85, mz_85, mg_86, mv_86, mz_86, mg_87, mv_87, mz_87, mg_88, mv_88, mz_88, mg_89, mv_89, mz_89, mg_90, mv_90, mz_90, mg_91, mv_91, mz_91, mg_92, mv_92, mz_92, mg_93, mv_93, mz_93, mg_94, mv_94, mz_94]
  all_goals ((repeat' split) <;> rfl)
theorem sq_told_mg (C A : zM) (k : Int32) : sq_told (mg C A) k = ((sq_told A k).1, mg C (sq_told A k).2) := by
  unfold sq_told
  simp only [mg_er, mg_vo, mg_sh, mg_nmv, mg_82, mv_82, mz_82, mg_83, mv_83, mz_83, mg_84, mv_84, mz_84, mg_85, mv_85, mz_85, mg_86, mv_86, mz_86, mg_87, mv_87, mz_87, mg_88, mv_88, mz_88, mg_89, mv_89, mz_89, mg_90, mv_90, mz_90, mg_91, mv_91, mz_91, mg_92, mv_92, mz_92, mg_93, mv_93, mz_93, mg_94, mv_94, mz_94]
  all_goals ((repeat' split) <;> rfl)
theorem sq_tell_mg (C A : zM) (v : Int32) : sq_tell (mg C A) v = ((sq_tell A v).1, mg C (sq_tell A v).2) := by
  unfold sq_tell
  simp only [mg_er, mg_vo, mg_sh, mg_nmv, mg_82, mv_82, mz_82, mg_83, mv_83, mz_83, mg_84, mv_84, mz_84, mg_85, mv_85, mz_85, mg_86, mv_86, mz_86, mg_87, mv_87, mz_87, mg_88, mv_88, mz_88, mg_89, mv_89, mz_89, mg_90, mv_90, mz_90, mg_91, mv_91, mz_91, mg_92, mv_92, mz_92, mg_93, mv_93, mz_93, mg_94, mv_94, mz_94]
  all_goals ((repeat' split) <;> rfl)
theorem sq_image_mg (C A : zM)  : sq_image (mg C A)  = ((sq_image A ).1, mg C (sq_image A ).2) := by
  unfold sq_image
  simp only [mg_er, mg_vo, mg_sh, mg_nmv, mg_82, mv_82, mz_82, mg_83, mv_83, mz_83, mg_84, mv_84, mz_84, mg_85, mv_85, mz_85, mg_86, mv_86, mz_86, mg_87, mv_87, mz_87, mg_88, mv_88, mz_88, mg_89, mv_89, mz_89, mg_90, mv_90, mz_90, mg_91, mv_91, mz_91, mg_92, mv_92, mz_92, mg_93, mv_93, mz_93, mg_94, mv_94, mz_94]
  all_goals ((repeat' split) <;> rfl)
theorem sq_restore_mg (C A : zM)  : sq_restore (mg C A)  = ((sq_restore A ).1, mg C (sq_restore A ).2) := by
  unfold sq_restore
  simp only [mg_er, mg_vo, mg_sh, mg_nmv, mg_82, mv_82, mz_82, mg_83, mv_83, mz_83, mg_84, mv_84, mz_84, mg_85, mv_85, mz_85, mg_86, mv_86, mz_86, mg_87, mv_87, mz_87, mg_88, mv_88, mz_88, mg_89, mv_89, mz_89, mg_90, mv_90, mz_90, mg_91, mv_91, mz_91, mg_92, mv_92, mz_92, mg_93, mv_93, mz_93, mg_94, mv_94, mz_94]
  all_goals ((repeat' split) <;> rfl)
theorem sq_body_mg (C A : zM) (i : Int32) : sq_body (mg C A) i = ((sq_body A i).1, mg C (sq_body A i).2) := by
  unfold sq_body
  simp only [mg_er, mg_vo, mg_sh, mg_nmv, mg_82, mv_82, mz_82, mg_83, mv_83, mz_83, mg_84, mv_84, mz_84, mg_85, mv_85, mz_85, mg_86, mv_86, mz_86, mg_87, mv_87, mz_87, mg_88, mv_88, mz_88, mg_89, mv_89, mz_89, mg_90, mv_90, mz_90, mg_91, mv_91, mz_91, mg_92, mv_92, mz_92, mg_93, mv_93, mz_93, mg_94, mv_94, mz_94]
  all_goals ((repeat' split) <;> rfl)
theorem sq_check_mg (C A : zM)  : sq_check (mg C A)  = ((sq_check A ).1, mg C (sq_check A ).2) := by
  unfold sq_check
  simp only [mg_er, mg_vo, mg_sh, mg_nmv, mg_82, mv_82, mz_82, mg_83, mv_83, mz_83, mg_84, mv_84, mz_84, mg_85, mv_85, mz_85, mg_86, mv_86, mz_86, mg_87, mv_87, mz_87, mg_88, mv_88, mz_88, mg_89, mv_89, mz_89, mg_90, mv_90, mz_90, mg_91, mv_91, mz_91, mg_92, mv_92, mz_92, mg_93, mv_93, mz_93, mg_94, mv_94, mz_94]
  all_goals ((repeat' split) <;> rfl)
theorem sq_sheet_mg (C A : zM) (s : Int32) (b : Int32) (n : Int32) : sq_sheet (mg C A) s b n = ((sq_sheet A s b n).1, mg C (sq_sheet A s b n).2) := by
  unfold sq_sheet
  simp only [mg_er, mg_vo, mg_sh, mg_nmv, mg_82, mv_82, mz_82, mg_83, mv_83, mz_83, mg_84, mv_84, mz_84, mg_85, mv_85, mz_85, mg_86, mv_86, mz_86, mg_87, mv_87, mz_87, mg_88, mv_88, mz_88, mg_89, mv_89, mz_89, mg_90, mv_90, mz_90, mg_91, mv_91, mz_91, mg_92, mv_92, mz_92, mg_93, mv_93, mz_93, mg_94, mv_94, mz_94]
  all_goals ((repeat' split) <;> rfl)
theorem sq_put_mg (C A : zM) (s : Int32) (i : Int32) (v : Int32) : sq_put (mg C A) s i v = ((sq_put A s i v).1, mg C (sq_put A s i v).2) := by
  unfold sq_put
  simp only [mg_er, mg_vo, mg_sh, mg_nmv, mg_82, mv_82, mz_82, mg_83, mv_83, mz_83, mg_84, mv_84, mz_84, mg_85, mv_85, mz_85, mg_86, mv_86, mz_86, mg_87, mv_87, mz_87, mg_88, mv_88, mz_88, mg_89, mv_89, mz_89, mg_90, mv_90, mz_90, mg_91, mv_91, mz_91, mg_92, mv_92, mz_92, mg_93, mv_93, mz_93, mg_94, mv_94, mz_94]
  all_goals ((repeat' split) <;> rfl)
theorem sq_judge_mg (C A : zM) (s : Int32) : sq_judge (mg C A) s = ((sq_judge A s).1, mg C (sq_judge A s).2) := by
  unfold sq_judge
  simp only [mg_er, mg_vo, mg_sh, mg_nmv, mg_82, mv_82, mz_82, mg_83, mv_83, mz_83, mg_84, mv_84, mz_84, mg_85, mv_85, mz_85, mg_86, mv_86, mz_86, mg_87, mv_87, mz_87, mg_88, mv_88, mz_88, mg_89, mv_89, mz_89, mg_90, mv_90, mz_90, mg_91, mv_91, mz_91, mg_92, mv_92, mz_92, mg_93, mv_93, mz_93, mg_94, mv_94, mz_94]
  all_goals ((repeat' split) <;> rfl)
theorem sq_sets_mg (C A : zM) (f : Int32) (s : Int32) : sq_sets (mg C A) f s = ((sq_sets A f s).1, mg C (sq_sets A f s).2) := by
  unfold sq_sets
  simp only [mg_er, mg_vo, mg_sh, mg_nmv, mg_82, mv_82, mz_82, mg_83, mv_83, mz_83, mg_84, mv_84, mz_84, mg_85, mv_85, mz_85, mg_86, mv_86, mz_86, mg_87, mv_87, mz_87, mg_88, mv_88, mz_88, mg_89, mv_89, mz_89, mg_90, mv_90, mz_90, mg_91, mv_91, mz_91, mg_92, mv_92, mz_92, mg_93, mv_93, mz_93, mg_94, mv_94, mz_94]
  all_goals ((repeat' split) <;> rfl)
theorem sq_move_mg (C A : zM) (s : Int32) (i : Int32) (u : Int32) (j : Int32) (n : Int32) : sq_move (mg C A) s i u j n = ((sq_move A s i u j n).1, mg C (sq_move A s i u j n).2) := by
  unfold sq_move
  simp only [mg_er, mg_vo, mg_sh, mg_nmv, mg_82, mv_82, mz_82, mg_83, mv_83, mz_83, mg_84, mv_84, mz_84, mg_85, mv_85, mz_85, mg_86, mv_86, mz_86, mg_87, mv_87, mz_87, mg_88, mv_88, mz_88, mg_89, mv_89, mz_89, mg_90, mv_90, mz_90, mg_91, mv_91, mz_91, mg_92, mv_92, mz_92, mg_93, mv_93, mz_93, mg_94, mv_94, mz_94]
  all_goals ((repeat' split) <;> rfl)
theorem sq_law_mg (C A : zM) (u : Int32) (a : Int32) (b : Int32) (c : Int32) : sq_law (mg C A) u a b c = ((sq_law A u a b c).1, mg C (sq_law A u a b c).2) := by
  unfold sq_law
  simp only [mg_er, mg_vo, mg_sh, mg_nmv, mg_82, mv_82, mz_82, mg_83, mv_83, mz_83, mg_84, mv_84, mz_84, mg_85, mv_85, mz_85, mg_86, mv_86, mz_86, mg_87, mv_87, mz_87, mg_88, mv_88, mz_88, mg_89, mv_89, mz_89, mg_90, mv_90, mz_90, mg_91, mv_91, mz_91, mg_92, mv_92, mz_92, mg_93, mv_93, mz_93, mg_94, mv_94, mz_94]
  all_goals ((repeat' split) <;> rfl)
theorem sq_fenceIs_mg (C A : zM) (f : Int32) (w : Int32) : sq_fenceIs (mg C A) f w = ((sq_fenceIs A f w).1, mg C (sq_fenceIs A f w).2) := by
  unfold sq_fenceIs
  simp only [mg_er, mg_vo, mg_sh, mg_nmv, mg_82, mv_82, mz_82, mg_83, mv_83, mz_83, mg_84, mv_84, mz_84, mg_85, mv_85, mz_85, mg_86, mv_86, mz_86, mg_87, mv_87, mz_87, mg_88, mv_88, mz_88, mg_89, mv_89, mz_89, mg_90, mv_90, mz_90, mg_91, mv_91, mz_91, mg_92, mv_92, mz_92, mg_93, mv_93, mz_93, mg_94, mv_94, mz_94]
  all_goals ((repeat' split) <;> rfl)
theorem sq_cowIs_mg (C A : zM) (c : Int32) (w : Int32) : sq_cowIs (mg C A) c w = ((sq_cowIs A c w).1, mg C (sq_cowIs A c w).2) := by
  unfold sq_cowIs
  simp only [mg_er, mg_vo, mg_sh, mg_nmv, mg_82, mv_82, mz_82, mg_83, mv_83, mz_83, mg_84, mv_84, mz_84, mg_85, mv_85, mz_85, mg_86, mv_86, mz_86, mg_87, mv_87, mz_87, mg_88, mv_88, mz_88, mg_89, mv_89, mz_89, mg_90, mv_90, mz_90, mg_91, mv_91, mz_91, mg_92, mv_92, mz_92, mg_93, mv_93, mz_93, mg_94, mv_94, mz_94]
  all_goals ((repeat' split) <;> rfl)
theorem sq_dawns_mg (C A : zM) (n : Int32) : sq_dawns (mg C A) n = ((sq_dawns A n).1, mg C (sq_dawns A n).2) := by
  unfold sq_dawns
  simp only [mg_er, mg_vo, mg_sh, mg_nmv, mg_82, mv_82, mz_82, mg_83, mv_83, mz_83, mg_84, mv_84, mz_84, mg_85, mv_85, mz_85, mg_86, mv_86, mz_86, mg_87, mv_87, mz_87, mg_88, mv_88, mz_88, mg_89, mv_89, mz_89, mg_90, mv_90, mz_90, mg_91, mv_91, mz_91, mg_92, mv_92, mz_92, mg_93, mv_93, mz_93, mg_94, mv_94, mz_94]
  all_goals ((repeat' split) <;> rfl)
theorem sq_loose_mg (C A : zM) (n : Int32) : sq_loose (mg C A) n = ((sq_loose A n).1, mg C (sq_loose A n).2) := by
  unfold sq_loose
  simp only [mg_er, mg_vo, mg_sh, mg_nmv, mg_82, mv_82, mz_82, mg_83, mv_83, mz_83, mg_84, mv_84, mz_84, mg_85, mv_85, mz_85, mg_86, mv_86, mz_86, mg_87, mv_87, mz_87, mg_88, mv_88, mz_88, mg_89, mv_89, mz_89, mg_90, mv_90, mz_90, mg_91, mv_91, mz_91, mg_92, mv_92, mz_92, mg_93, mv_93, mz_93, mg_94, mv_94, mz_94]
  all_goals ((repeat' split) <;> rfl)
theorem sq_then_mg (C A : zM) (f : Int32) (n : Int32) (w : Int32) : sq_then (mg C A) f n w = ((sq_then A f n w).1, mg C (sq_then A f n w).2) := by
  unfold sq_then
  simp only [mg_er, mg_vo, mg_sh, mg_nmv, mg_82, mv_82, mz_82, mg_83, mv_83, mz_83, mg_84, mv_84, mz_84, mg_85, mv_85, mz_85, mg_86, mv_86, mz_86, mg_87, mv_87, mz_87, mg_88, mv_88, mz_88, mg_89, mv_89, mz_89, mg_90, mv_90, mz_90, mg_91, mv_91, mz_91, mg_92, mv_92, mz_92, mg_93, mv_93, mz_93, mg_94, mv_94, mz_94]
  all_goals ((repeat' split) <;> rfl)
theorem sq_first_mg (C A : zM) (c : Int32) (w : Int32) : sq_first (mg C A) c w = ((sq_first A c w).1, mg C (sq_first A c w).2) := by
  unfold sq_first
  simp only [mg_er, mg_vo, mg_sh, mg_nmv, mg_82, mv_82, mz_82, mg_83, mv_83, mz_83, mg_84, mv_84, mz_84, mg_85, mv_85, mz_85, mg_86, mv_86, mz_86, mg_87, mv_87, mz_87, mg_88, mv_88, mz_88, mg_89, mv_89, mz_89, mg_90, mv_90, mz_90, mg_91, mv_91, mz_91, mg_92, mv_92, mz_92, mg_93, mv_93, mz_93, mg_94, mv_94, mz_94]
  all_goals ((repeat' split) <;> rfl)
theorem sq_way_mg (C A : zM) (c : Int32) (t : Int32) : sq_way (mg C A) c t = ((sq_way A c t).1, mg C (sq_way A c t).2) := by
  unfold sq_way
  simp only [mg_er, mg_vo, mg_sh, mg_nmv, mg_82, mv_82, mz_82, mg_83, mv_83, mz_83, mg_84, mv_84, mz_84, mg_85, mv_85, mz_85, mg_86, mv_86, mz_86, mg_87, mv_87, mz_87, mg_88, mv_88, mz_88, mg_89, mv_89, mz_89, mg_90, mv_90, mz_90, mg_91, mv_91, mz_91, mg_92, mv_92, mz_92, mg_93, mv_93, mz_93, mg_94, mv_94, mz_94]
  all_goals ((repeat' split) <;> rfl)
theorem sq_fits_mg (C A : zM) (s : Int32) (f : Int32) : sq_fits (mg C A) s f = ((sq_fits A s f).1, mg C (sq_fits A s f).2) := by
  unfold sq_fits
  simp only [mg_er, mg_vo, mg_sh, mg_nmv, mg_82, mv_82, mz_82, mg_83, mv_83, mz_83, mg_84, mv_84, mz_84, mg_85, mv_85, mz_85, mg_86, mv_86, mz_86, mg_87, mv_87, mz_87, mg_88, mv_88, mz_88, mg_89, mv_89, mz_89, mg_90, mv_90, mz_90, mg_91, mv_91, mz_91, mg_92, mv_92, mz_92, mg_93, mv_93, mz_93, mg_94, mv_94, mz_94]
  all_goals ((repeat' split) <;> rfl)
theorem sq_odds_mg (C A : zM) (t : Int32) : sq_odds (mg C A) t = ((sq_odds A t).1, mg C (sq_odds A t).2) := by
  unfold sq_odds
  simp only [mg_er, mg_vo, mg_sh, mg_nmv, mg_82, mv_82, mz_82, mg_83, mv_83, mz_83, mg_84, mv_84, mz_84, mg_85, mv_85, mz_85, mg_86, mv_86, mz_86, mg_87, mv_87, mz_87, mg_88, mv_88, mz_88, mg_89, mv_89, mz_89, mg_90, mv_90, mz_90, mg_91, mv_91, mz_91, mg_92, mv_92, mz_92, mg_93, mv_93, mz_93, mg_94, mv_94, mz_94]
  all_goals ((repeat' split) <;> rfl)
theorem sq_feed_mg (C A : zM) (x : Int64) (n : Int32) : sq_feed (mg C A) x n = ((sq_feed A x n).1, mg C (sq_feed A x n).2) := by
  unfold sq_feed
  simp only [mg_er, mg_vo, mg_sh, mg_nmv, mg_82, mv_82, mz_82, mg_83, mv_83, mz_83, mg_84, mv_84, mz_84, mg_85, mv_85, mz_85, mg_86, mv_86, mz_86, mg_87, mv_87, mz_87, mg_88, mv_88, mz_88, mg_89, mv_89, mz_89, mg_90, mv_90, mz_90, mg_91, mv_91, mz_91, mg_92, mv_92, mz_92, mg_93, mv_93, mz_93, mg_94, mv_94, mz_94]
  all_goals ((repeat' split) <;> rfl)
theorem sq_voice_mg (C A : zM) (f : Int32) (v : Int32) (x : Int32) : sq_voice (mg C A) f v x = ((sq_voice A f v x).1, mg C (sq_voice A f v x).2) := by
  unfold sq_voice
  simp only [mg_er, mg_vo, mg_sh, mg_nmv, mg_82, mv_82, mz_82, mg_83, mv_83, mz_83, mg_84, mv_84, mz_84, mg_85, mv_85, mz_85, mg_86, mv_86, mz_86, mg_87, mv_87, mz_87, mg_88, mv_88, mz_88, mg_89, mv_89, mz_89, mg_90, mv_90, mz_90, mg_91, mv_91, mz_91, mg_92, mv_92, mz_92, mg_93, mv_93, mz_93, mg_94, mv_94, mz_94]
  all_goals ((repeat' split) <;> rfl)
theorem sq_salts_mg (C A : zM) (f : Int32) (c : Int32) (n : Int32) (w : Int32) : sq_salts (mg C A) f c n w = ((sq_salts A f c n w).1, mg C (sq_salts A f c n w).2) := by
  unfold sq_salts
  simp only [mg_er, mg_vo, mg_sh, mg_nmv, mg_82, mv_82, mz_82, mg_83, mv_83, mz_83, mg_84, mv_84, mz_84, mg_85, mv_85, mz_85, mg_86, mv_86, mz_86, mg_87, mv_87, mz_87, mg_88, mv_88, mz_88, mg_89, mv_89, mz_89, mg_90, mv_90, mz_90, mg_91, mv_91, mz_91, mg_92, mv_92, mz_92, mg_93, mv_93, mz_93, mg_94, mv_94, mz_94]
  all_goals ((repeat' split) <;> rfl)
theorem sq_text_mg (C A : zM) (u : Int32) : sq_text (mg C A) u = ((sq_text A u).1, mg C (sq_text A u).2) := by
  unfold sq_text
  simp only [mg_er, mg_vo, mg_sh, mg_nmv, mg_82, mv_82, mz_82, mg_83, mv_83, mz_83, mg_84, mv_84, mz_84, mg_85, mv_85, mz_85, mg_86, mv_86, mz_86, mg_87, mv_87, mz_87, mg_88, mv_88, mz_88, mg_89, mv_89, mz_89, mg_90, mv_90, mz_90, mg_91, mv_91, mz_91, mg_92, mv_92, mz_92, mg_93, mv_93, mz_93, mg_94, mv_94, mz_94]
  all_goals ((repeat' split) <;> rfl)
