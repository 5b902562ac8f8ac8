/-! pieces of the relation over another state -/
theorem rlW_fr {X Y : AX} (a : xI Y 4 0 = xI X 4 0) (b : xI Y 4 1 = xI X 4 1) (c : xI Y 42 1 = xI X 42 1) (d : xI Y 42 2 = xI X 42 2) (h : rlW X) : rlW Y := by
  unfold rlW; rw [a, b, c, d]; exact h
theorem rlR_fr {X Y : AX} (a : xI Y 6 = xI X 6) (b : xI Y 7 = xI X 7) (c : xI Y 43 = xI X 43) (d : xI Y 44 = xI X 44) (h : rlR X) : rlR Y := by
  unfold rlR; rw [a, b, c, d]; exact h
theorem rlL_fr {n s : Nat} {X Y : AX} (a : xI Y 9 = xI X 9) (b : xI Y 10 = xI X 10) (c : xI Y 47 = xI X 47) (d : xI Y 48 = xI X 48) (h : rlL n s X) : rlL n s Y := by
  unfold rlL; rw [a, b, c, d]; exact h
theorem rlE_fr {s : Nat} {X Y : AX} (a : xI Y 11 2 = xI X 11 2) (b : xI Y 42 6 = xI X 42 6) (c : xI Y 12 = xI X 12) (d : xI Y 13 = xI X 13) (e : xI Y 49 = xI X 49) (f : xI Y 50 = xI X 50) (h : rlE s X) : rlE s Y := by
  unfold rlE; rw [a, b, c, d, e, f]; exact h
theorem rlK_fr {l : Nat} {X Y : AX} (a : xI Y 34 2 = xI X 34 2) (b : xI Y 34 3 = xI X 34 3) (c : xI Y 42 25 = xI X 42 25) (d : xI Y 35 = xI X 35) (e : xI Y 36 = xI X 36) (f : xI Y 56 = xI X 56) (g : xI Y 57 = xI X 57) (h : rlK l X) : rlK l Y := by
  unfold rlK; rw [a, b, c, d, e, f, g]; exact h
theorem mFrac_fr {m c : Nat} {T B : Int} {X Y : AX} (a : xI Y (m + 1) 3 = xI X (m + 1) 3) (b : xI Y (m + 1 + 1) = xI X (m + 1 + 1)) (d : xI Y (m + 1 + 2) = xI X (m + 1 + 2)) (e : xI Y 72 c = xI X 72 c) (f : xI Y 73 c = xI X 73 c) (g : cOv c Y = cOv c X) (i : cUn c Y = cUn c X) (h : mFrac m c T B X) : mFrac m c T B Y := by
  unfold mFrac Pt; rw [a, b, d, e, f, g, i]; exact h
