/-! THE CLASS'S FOUR DUCHIES INSIDE THE WHOLE MEMORY -/
section CE
variable {X : List Int} {mem : AM} {n t mi la g d d' : ST} {m : MI} {al : List AV} {r : Option AV}
theorem C1 (h : ∀ M, ev X m 0 al [] (dput M 1 d) = some (r, dput M 1 d')) : ev X m 0 al [] (cpt mem d t mi la g) = some (r, cpt mem d' t mi la g) := by
  have h1 := h (cpt mem d t mi la g)
  rwa [cp1, cp1] at h1
theorem C12 (h : ∀ M, ev X m 0 al [] (dput M 12 d) = some (r, dput M 12 d')) : ev X m 0 al [] (cpt mem n d mi la g) = some (r, cpt mem n d' mi la g) := by
  have h1 := h (cpt mem n d mi la g)
  rwa [cp12, cp12] at h1
theorem C24 (h : ∀ M, ev X m 0 al [] (dput M 24 d) = some (r, dput M 24 d')) : ev X m 0 al [] (cpt mem n t d la g) = some (r, cpt mem n t d' la g) := by
  have h1 := h (cpt mem n t d la g)
  rwa [cp24, cp24] at h1
theorem C35 (h : ∀ M, ev X m 0 al [] (dput M 35 d) = some (r, dput M 35 d')) : ev X m 0 al [] (cpt mem n t mi d g) = some (r, cpt mem n t mi d' g) := by
  have h1 := h (cpt mem n t mi d g)
  rwa [cp35, cp35] at h1
theorem q1_0 : fget (cpt mem n t mi la g) 1 0 0 = some (vI (n.1 0)) := by
  rw [← cp1 (n := n) (d := n)]
  exact fd0
theorem q1_1 : fget (cpt mem n t mi la g) 1 0 1 = some (vI (n.1 1)) := by
  rw [← cp1 (n := n) (d := n)]
  exact fd1
theorem q1_2 : fget (cpt mem n t mi la g) 1 0 2 = some (vI (n.1 2)) := by
  rw [← cp1 (n := n) (d := n)]
  exact fd2
theorem q1_3 : fget (cpt mem n t mi la g) 1 0 3 = some (vR 2) := by
  rw [← cp1 (n := n) (d := n)]
  exact fd3
theorem q1_4 : fget (cpt mem n t mi la g) 1 0 4 = some (vR 3) := by
  rw [← cp1 (n := n) (d := n)]
  exact fd4
theorem q1_5 : fget (cpt mem n t mi la g) 1 0 5 = some (vR 4) := by
  rw [← cp1 (n := n) (d := n)]
  exact fd5
theorem q1_6 : fget (cpt mem n t mi la g) 1 0 6 = some (vR 5) := by
  rw [← cp1 (n := n) (d := n)]
  exact fd6
theorem q1_7 : fget (cpt mem n t mi la g) 1 0 7 = some (vR 6) := by
  rw [← cp1 (n := n) (d := n)]
  exact fd7
theorem q1_8 : fget (cpt mem n t mi la g) 1 0 8 = some (vR 7) := by
  rw [← cp1 (n := n) (d := n)]
  exact fd8
theorem q1_9 : fget (cpt mem n t mi la g) 1 0 9 = some (vR 8) := by
  rw [← cp1 (n := n) (d := n)]
  exact fd9
theorem q1_10 : fget (cpt mem n t mi la g) 1 0 10 = some (vR 9) := by
  rw [← cp1 (n := n) (d := n)]
  exact fd10
theorem q1_11 : fget (cpt mem n t mi la g) 1 0 11 = some (vR 10) := by
  rw [← cp1 (n := n) (d := n)]
  exact fd11
theorem q1_12 : fget (cpt mem n t mi la g) 1 0 12 = some (vR 11) := by
  rw [← cp1 (n := n) (d := n)]
  exact fd12
theorem qp1_0 {x : Int} : fput (cpt mem n t mi la g) 1 0 0 (vI x) = some (cpt mem (setS n 0 x) t mi la g) := by
  have h := fp0 (mem := (cpt mem n t mi la g)) (B := 1) (d := n) (x := x)
  rwa [cp1, cp1] at h
theorem qp1_1 {x : Int} : fput (cpt mem n t mi la g) 1 0 1 (vI x) = some (cpt mem (setS n 1 x) t mi la g) := by
  have h := fp1 (mem := (cpt mem n t mi la g)) (B := 1) (d := n) (x := x)
  rwa [cp1, cp1] at h
theorem qp1_2 {x : Int} : fput (cpt mem n t mi la g) 1 0 2 (vI x) = some (cpt mem (setS n 2 x) t mi la g) := by
  have h := fp2 (mem := (cpt mem n t mi la g)) (B := 1) (d := n) (x := x)
  rwa [cp1, cp1] at h
theorem qa1_1 {i : Nat} (h : i < (n.2 1).length) : aget (cpt mem n t mi la g) 2 (i : Int) = some (vI ((n.2 1).getD i 0)) := by
  rw [← cp1 (n := n) (d := n)]
  exact ad1 h
theorem qs1_1 {i : Nat} {x : Int} (h : i < (n.2 1).length) : aput (cpt mem n t mi la g) 2 (i : Int) x = some (cpt mem (setL n 1 ((n.2 1).set i x)) t mi la g) := by
  have h := pd1 (mem := (cpt mem n t mi la g)) (B := 1) (d := n) (x := x) h
  rwa [cp1, cp1] at h
theorem qa1_2 {i : Nat} (h : i < (n.2 2).length) : aget (cpt mem n t mi la g) 3 (i : Int) = some (vI ((n.2 2).getD i 0)) := by
  rw [← cp1 (n := n) (d := n)]
  exact ad2 h
theorem qs1_2 {i : Nat} {x : Int} (h : i < (n.2 2).length) : aput (cpt mem n t mi la g) 3 (i : Int) x = some (cpt mem (setL n 2 ((n.2 2).set i x)) t mi la g) := by
  have h := pd2 (mem := (cpt mem n t mi la g)) (B := 1) (d := n) (x := x) h
  rwa [cp1, cp1] at h
theorem qa1_3 {i : Nat} (h : i < (n.2 3).length) : aget (cpt mem n t mi la g) 4 (i : Int) = some (vI ((n.2 3).getD i 0)) := by
  rw [← cp1 (n := n) (d := n)]
  exact ad3 h
theorem qs1_3 {i : Nat} {x : Int} (h : i < (n.2 3).length) : aput (cpt mem n t mi la g) 4 (i : Int) x = some (cpt mem (setL n 3 ((n.2 3).set i x)) t mi la g) := by
  have h := pd3 (mem := (cpt mem n t mi la g)) (B := 1) (d := n) (x := x) h
  rwa [cp1, cp1] at h
theorem qa1_4 {i : Nat} (h : i < (n.2 4).length) : aget (cpt mem n t mi la g) 5 (i : Int) = some (vI ((n.2 4).getD i 0)) := by
  rw [← cp1 (n := n) (d := n)]
  exact ad4 h
theorem qs1_4 {i : Nat} {x : Int} (h : i < (n.2 4).length) : aput (cpt mem n t mi la g) 5 (i : Int) x = some (cpt mem (setL n 4 ((n.2 4).set i x)) t mi la g) := by
  have h := pd4 (mem := (cpt mem n t mi la g)) (B := 1) (d := n) (x := x) h
  rwa [cp1, cp1] at h
theorem qa1_5 {i : Nat} (h : i < (n.2 5).length) : aget (cpt mem n t mi la g) 6 (i : Int) = some (vI ((n.2 5).getD i 0)) := by
  rw [← cp1 (n := n) (d := n)]
  exact ad5 h
theorem qs1_5 {i : Nat} {x : Int} (h : i < (n.2 5).length) : aput (cpt mem n t mi la g) 6 (i : Int) x = some (cpt mem (setL n 5 ((n.2 5).set i x)) t mi la g) := by
  have h := pd5 (mem := (cpt mem n t mi la g)) (B := 1) (d := n) (x := x) h
  rwa [cp1, cp1] at h
theorem qa1_6 {i : Nat} (h : i < (n.2 6).length) : aget (cpt mem n t mi la g) 7 (i : Int) = some (vI ((n.2 6).getD i 0)) := by
  rw [← cp1 (n := n) (d := n)]
  exact ad6 h
theorem qs1_6 {i : Nat} {x : Int} (h : i < (n.2 6).length) : aput (cpt mem n t mi la g) 7 (i : Int) x = some (cpt mem (setL n 6 ((n.2 6).set i x)) t mi la g) := by
  have h := pd6 (mem := (cpt mem n t mi la g)) (B := 1) (d := n) (x := x) h
  rwa [cp1, cp1] at h
theorem qa1_7 {i : Nat} (h : i < (n.2 7).length) : aget (cpt mem n t mi la g) 8 (i : Int) = some (vI ((n.2 7).getD i 0)) := by
  rw [← cp1 (n := n) (d := n)]
  exact ad7 h
theorem qs1_7 {i : Nat} {x : Int} (h : i < (n.2 7).length) : aput (cpt mem n t mi la g) 8 (i : Int) x = some (cpt mem (setL n 7 ((n.2 7).set i x)) t mi la g) := by
  have h := pd7 (mem := (cpt mem n t mi la g)) (B := 1) (d := n) (x := x) h
  rwa [cp1, cp1] at h
theorem qa1_8 {i : Nat} (h : i < (n.2 8).length) : aget (cpt mem n t mi la g) 9 (i : Int) = some (vI ((n.2 8).getD i 0)) := by
  rw [← cp1 (n := n) (d := n)]
  exact ad8 h
theorem qs1_8 {i : Nat} {x : Int} (h : i < (n.2 8).length) : aput (cpt mem n t mi la g) 9 (i : Int) x = some (cpt mem (setL n 8 ((n.2 8).set i x)) t mi la g) := by
  have h := pd8 (mem := (cpt mem n t mi la g)) (B := 1) (d := n) (x := x) h
  rwa [cp1, cp1] at h
theorem qa1_9 {i : Nat} (h : i < (n.2 9).length) : aget (cpt mem n t mi la g) 10 (i : Int) = some (vI ((n.2 9).getD i 0)) := by
  rw [← cp1 (n := n) (d := n)]
  exact ad9 h
theorem qs1_9 {i : Nat} {x : Int} (h : i < (n.2 9).length) : aput (cpt mem n t mi la g) 10 (i : Int) x = some (cpt mem (setL n 9 ((n.2 9).set i x)) t mi la g) := by
  have h := pd9 (mem := (cpt mem n t mi la g)) (B := 1) (d := n) (x := x) h
  rwa [cp1, cp1] at h
theorem qa1_10 {i : Nat} (h : i < (n.2 10).length) : aget (cpt mem n t mi la g) 11 (i : Int) = some (vI ((n.2 10).getD i 0)) := by
  rw [← cp1 (n := n) (d := n)]
  exact ad10 h
theorem qs1_10 {i : Nat} {x : Int} (h : i < (n.2 10).length) : aput (cpt mem n t mi la g) 11 (i : Int) x = some (cpt mem (setL n 10 ((n.2 10).set i x)) t mi la g) := by
  have h := pd10 (mem := (cpt mem n t mi la g)) (B := 1) (d := n) (x := x) h
  rwa [cp1, cp1] at h
theorem q12_0 : fget (cpt mem n t mi la g) 12 0 0 = some (vI (t.1 0)) := by
  rw [← cp12 (t := t) (d := t)]
  exact fd0
theorem q12_1 : fget (cpt mem n t mi la g) 12 0 1 = some (vI (t.1 1)) := by
  rw [← cp12 (t := t) (d := t)]
  exact fd1
theorem q12_2 : fget (cpt mem n t mi la g) 12 0 2 = some (vI (t.1 2)) := by
  rw [← cp12 (t := t) (d := t)]
  exact fd2
theorem q12_3 : fget (cpt mem n t mi la g) 12 0 3 = some (vR 13) := by
  rw [← cp12 (t := t) (d := t)]
  exact fd3
theorem q12_4 : fget (cpt mem n t mi la g) 12 0 4 = some (vR 14) := by
  rw [← cp12 (t := t) (d := t)]
  exact fd4
theorem q12_5 : fget (cpt mem n t mi la g) 12 0 5 = some (vR 15) := by
  rw [← cp12 (t := t) (d := t)]
  exact fd5
theorem q12_6 : fget (cpt mem n t mi la g) 12 0 6 = some (vR 16) := by
  rw [← cp12 (t := t) (d := t)]
  exact fd6
theorem q12_7 : fget (cpt mem n t mi la g) 12 0 7 = some (vR 17) := by
  rw [← cp12 (t := t) (d := t)]
  exact fd7
theorem q12_8 : fget (cpt mem n t mi la g) 12 0 8 = some (vR 18) := by
  rw [← cp12 (t := t) (d := t)]
  exact fd8
theorem q12_9 : fget (cpt mem n t mi la g) 12 0 9 = some (vR 19) := by
  rw [← cp12 (t := t) (d := t)]
  exact fd9
theorem q12_10 : fget (cpt mem n t mi la g) 12 0 10 = some (vR 20) := by
  rw [← cp12 (t := t) (d := t)]
  exact fd10
theorem q12_11 : fget (cpt mem n t mi la g) 12 0 11 = some (vR 21) := by
  rw [← cp12 (t := t) (d := t)]
  exact fd11
theorem q12_12 : fget (cpt mem n t mi la g) 12 0 12 = some (vR 22) := by
  rw [← cp12 (t := t) (d := t)]
  exact fd12
theorem qp12_0 {x : Int} : fput (cpt mem n t mi la g) 12 0 0 (vI x) = some (cpt mem n (setS t 0 x) mi la g) := by
  have h := fp0 (mem := (cpt mem n t mi la g)) (B := 12) (d := t) (x := x)
  rwa [cp12, cp12] at h
theorem qp12_1 {x : Int} : fput (cpt mem n t mi la g) 12 0 1 (vI x) = some (cpt mem n (setS t 1 x) mi la g) := by
  have h := fp1 (mem := (cpt mem n t mi la g)) (B := 12) (d := t) (x := x)
  rwa [cp12, cp12] at h
theorem qp12_2 {x : Int} : fput (cpt mem n t mi la g) 12 0 2 (vI x) = some (cpt mem n (setS t 2 x) mi la g) := by
  have h := fp2 (mem := (cpt mem n t mi la g)) (B := 12) (d := t) (x := x)
  rwa [cp12, cp12] at h
theorem qa12_1 {i : Nat} (h : i < (t.2 1).length) : aget (cpt mem n t mi la g) 13 (i : Int) = some (vI ((t.2 1).getD i 0)) := by
  rw [← cp12 (t := t) (d := t)]
  exact ad1 h
theorem qs12_1 {i : Nat} {x : Int} (h : i < (t.2 1).length) : aput (cpt mem n t mi la g) 13 (i : Int) x = some (cpt mem n (setL t 1 ((t.2 1).set i x)) mi la g) := by
  have h := pd1 (mem := (cpt mem n t mi la g)) (B := 12) (d := t) (x := x) h
  rwa [cp12, cp12] at h
theorem qa12_2 {i : Nat} (h : i < (t.2 2).length) : aget (cpt mem n t mi la g) 14 (i : Int) = some (vI ((t.2 2).getD i 0)) := by
  rw [← cp12 (t := t) (d := t)]
  exact ad2 h
theorem qs12_2 {i : Nat} {x : Int} (h : i < (t.2 2).length) : aput (cpt mem n t mi la g) 14 (i : Int) x = some (cpt mem n (setL t 2 ((t.2 2).set i x)) mi la g) := by
  have h := pd2 (mem := (cpt mem n t mi la g)) (B := 12) (d := t) (x := x) h
  rwa [cp12, cp12] at h
theorem qa12_3 {i : Nat} (h : i < (t.2 3).length) : aget (cpt mem n t mi la g) 15 (i : Int) = some (vI ((t.2 3).getD i 0)) := by
  rw [← cp12 (t := t) (d := t)]
  exact ad3 h
theorem qs12_3 {i : Nat} {x : Int} (h : i < (t.2 3).length) : aput (cpt mem n t mi la g) 15 (i : Int) x = some (cpt mem n (setL t 3 ((t.2 3).set i x)) mi la g) := by
  have h := pd3 (mem := (cpt mem n t mi la g)) (B := 12) (d := t) (x := x) h
  rwa [cp12, cp12] at h
theorem qa12_4 {i : Nat} (h : i < (t.2 4).length) : aget (cpt mem n t mi la g) 16 (i : Int) = some (vI ((t.2 4).getD i 0)) := by
  rw [← cp12 (t := t) (d := t)]
  exact ad4 h
theorem qs12_4 {i : Nat} {x : Int} (h : i < (t.2 4).length) : aput (cpt mem n t mi la g) 16 (i : Int) x = some (cpt mem n (setL t 4 ((t.2 4).set i x)) mi la g) := by
  have h := pd4 (mem := (cpt mem n t mi la g)) (B := 12) (d := t) (x := x) h
  rwa [cp12, cp12] at h
theorem qa12_5 {i : Nat} (h : i < (t.2 5).length) : aget (cpt mem n t mi la g) 17 (i : Int) = some (vI ((t.2 5).getD i 0)) := by
  rw [← cp12 (t := t) (d := t)]
  exact ad5 h
theorem qs12_5 {i : Nat} {x : Int} (h : i < (t.2 5).length) : aput (cpt mem n t mi la g) 17 (i : Int) x = some (cpt mem n (setL t 5 ((t.2 5).set i x)) mi la g) := by
  have h := pd5 (mem := (cpt mem n t mi la g)) (B := 12) (d := t) (x := x) h
  rwa [cp12, cp12] at h
theorem qa12_6 {i : Nat} (h : i < (t.2 6).length) : aget (cpt mem n t mi la g) 18 (i : Int) = some (vI ((t.2 6).getD i 0)) := by
  rw [← cp12 (t := t) (d := t)]
  exact ad6 h
theorem qs12_6 {i : Nat} {x : Int} (h : i < (t.2 6).length) : aput (cpt mem n t mi la g) 18 (i : Int) x = some (cpt mem n (setL t 6 ((t.2 6).set i x)) mi la g) := by
  have h := pd6 (mem := (cpt mem n t mi la g)) (B := 12) (d := t) (x := x) h
  rwa [cp12, cp12] at h
theorem qa12_7 {i : Nat} (h : i < (t.2 7).length) : aget (cpt mem n t mi la g) 19 (i : Int) = some (vI ((t.2 7).getD i 0)) := by
  rw [← cp12 (t := t) (d := t)]
  exact ad7 h
theorem qs12_7 {i : Nat} {x : Int} (h : i < (t.2 7).length) : aput (cpt mem n t mi la g) 19 (i : Int) x = some (cpt mem n (setL t 7 ((t.2 7).set i x)) mi la g) := by
  have h := pd7 (mem := (cpt mem n t mi la g)) (B := 12) (d := t) (x := x) h
  rwa [cp12, cp12] at h
theorem qa12_8 {i : Nat} (h : i < (t.2 8).length) : aget (cpt mem n t mi la g) 20 (i : Int) = some (vI ((t.2 8).getD i 0)) := by
  rw [← cp12 (t := t) (d := t)]
  exact ad8 h
theorem qs12_8 {i : Nat} {x : Int} (h : i < (t.2 8).length) : aput (cpt mem n t mi la g) 20 (i : Int) x = some (cpt mem n (setL t 8 ((t.2 8).set i x)) mi la g) := by
  have h := pd8 (mem := (cpt mem n t mi la g)) (B := 12) (d := t) (x := x) h
  rwa [cp12, cp12] at h
theorem qa12_9 {i : Nat} (h : i < (t.2 9).length) : aget (cpt mem n t mi la g) 21 (i : Int) = some (vI ((t.2 9).getD i 0)) := by
  rw [← cp12 (t := t) (d := t)]
  exact ad9 h
theorem qs12_9 {i : Nat} {x : Int} (h : i < (t.2 9).length) : aput (cpt mem n t mi la g) 21 (i : Int) x = some (cpt mem n (setL t 9 ((t.2 9).set i x)) mi la g) := by
  have h := pd9 (mem := (cpt mem n t mi la g)) (B := 12) (d := t) (x := x) h
  rwa [cp12, cp12] at h
theorem qa12_10 {i : Nat} (h : i < (t.2 10).length) : aget (cpt mem n t mi la g) 22 (i : Int) = some (vI ((t.2 10).getD i 0)) := by
  rw [← cp12 (t := t) (d := t)]
  exact ad10 h
theorem qs12_10 {i : Nat} {x : Int} (h : i < (t.2 10).length) : aput (cpt mem n t mi la g) 22 (i : Int) x = some (cpt mem n (setL t 10 ((t.2 10).set i x)) mi la g) := by
  have h := pd10 (mem := (cpt mem n t mi la g)) (B := 12) (d := t) (x := x) h
  rwa [cp12, cp12] at h
theorem q24_0 : fget (cpt mem n t mi la g) 24 0 0 = some (vI (mi.1 0)) := by
  rw [← cp24 (mi := mi) (d := mi)]
  exact fd0
theorem q24_1 : fget (cpt mem n t mi la g) 24 0 1 = some (vI (mi.1 1)) := by
  rw [← cp24 (mi := mi) (d := mi)]
  exact fd1
theorem q24_2 : fget (cpt mem n t mi la g) 24 0 2 = some (vI (mi.1 2)) := by
  rw [← cp24 (mi := mi) (d := mi)]
  exact fd2
theorem q24_3 : fget (cpt mem n t mi la g) 24 0 3 = some (vR 25) := by
  rw [← cp24 (mi := mi) (d := mi)]
  exact fd3
theorem q24_4 : fget (cpt mem n t mi la g) 24 0 4 = some (vR 26) := by
  rw [← cp24 (mi := mi) (d := mi)]
  exact fd4
theorem q24_5 : fget (cpt mem n t mi la g) 24 0 5 = some (vR 27) := by
  rw [← cp24 (mi := mi) (d := mi)]
  exact fd5
theorem q24_6 : fget (cpt mem n t mi la g) 24 0 6 = some (vR 28) := by
  rw [← cp24 (mi := mi) (d := mi)]
  exact fd6
theorem q24_7 : fget (cpt mem n t mi la g) 24 0 7 = some (vR 29) := by
  rw [← cp24 (mi := mi) (d := mi)]
  exact fd7
theorem q24_8 : fget (cpt mem n t mi la g) 24 0 8 = some (vR 30) := by
  rw [← cp24 (mi := mi) (d := mi)]
  exact fd8
theorem q24_9 : fget (cpt mem n t mi la g) 24 0 9 = some (vR 31) := by
  rw [← cp24 (mi := mi) (d := mi)]
  exact fd9
theorem q24_10 : fget (cpt mem n t mi la g) 24 0 10 = some (vR 32) := by
  rw [← cp24 (mi := mi) (d := mi)]
  exact fd10
theorem q24_11 : fget (cpt mem n t mi la g) 24 0 11 = some (vR 33) := by
  rw [← cp24 (mi := mi) (d := mi)]
  exact fd11
theorem q24_12 : fget (cpt mem n t mi la g) 24 0 12 = some (vR 34) := by
  rw [← cp24 (mi := mi) (d := mi)]
  exact fd12
theorem qp24_0 {x : Int} : fput (cpt mem n t mi la g) 24 0 0 (vI x) = some (cpt mem n t (setS mi 0 x) la g) := by
  have h := fp0 (mem := (cpt mem n t mi la g)) (B := 24) (d := mi) (x := x)
  rwa [cp24, cp24] at h
theorem qp24_1 {x : Int} : fput (cpt mem n t mi la g) 24 0 1 (vI x) = some (cpt mem n t (setS mi 1 x) la g) := by
  have h := fp1 (mem := (cpt mem n t mi la g)) (B := 24) (d := mi) (x := x)
  rwa [cp24, cp24] at h
theorem qp24_2 {x : Int} : fput (cpt mem n t mi la g) 24 0 2 (vI x) = some (cpt mem n t (setS mi 2 x) la g) := by
  have h := fp2 (mem := (cpt mem n t mi la g)) (B := 24) (d := mi) (x := x)
  rwa [cp24, cp24] at h
theorem qa24_1 {i : Nat} (h : i < (mi.2 1).length) : aget (cpt mem n t mi la g) 25 (i : Int) = some (vI ((mi.2 1).getD i 0)) := by
  rw [← cp24 (mi := mi) (d := mi)]
  exact ad1 h
theorem qs24_1 {i : Nat} {x : Int} (h : i < (mi.2 1).length) : aput (cpt mem n t mi la g) 25 (i : Int) x = some (cpt mem n t (setL mi 1 ((mi.2 1).set i x)) la g) := by
  have h := pd1 (mem := (cpt mem n t mi la g)) (B := 24) (d := mi) (x := x) h
  rwa [cp24, cp24] at h
theorem qa24_2 {i : Nat} (h : i < (mi.2 2).length) : aget (cpt mem n t mi la g) 26 (i : Int) = some (vI ((mi.2 2).getD i 0)) := by
  rw [← cp24 (mi := mi) (d := mi)]
  exact ad2 h
theorem qs24_2 {i : Nat} {x : Int} (h : i < (mi.2 2).length) : aput (cpt mem n t mi la g) 26 (i : Int) x = some (cpt mem n t (setL mi 2 ((mi.2 2).set i x)) la g) := by
  have h := pd2 (mem := (cpt mem n t mi la g)) (B := 24) (d := mi) (x := x) h
  rwa [cp24, cp24] at h
theorem qa24_3 {i : Nat} (h : i < (mi.2 3).length) : aget (cpt mem n t mi la g) 27 (i : Int) = some (vI ((mi.2 3).getD i 0)) := by
  rw [← cp24 (mi := mi) (d := mi)]
  exact ad3 h
theorem qs24_3 {i : Nat} {x : Int} (h : i < (mi.2 3).length) : aput (cpt mem n t mi la g) 27 (i : Int) x = some (cpt mem n t (setL mi 3 ((mi.2 3).set i x)) la g) := by
  have h := pd3 (mem := (cpt mem n t mi la g)) (B := 24) (d := mi) (x := x) h
  rwa [cp24, cp24] at h
theorem qa24_4 {i : Nat} (h : i < (mi.2 4).length) : aget (cpt mem n t mi la g) 28 (i : Int) = some (vI ((mi.2 4).getD i 0)) := by
  rw [← cp24 (mi := mi) (d := mi)]
  exact ad4 h
theorem qs24_4 {i : Nat} {x : Int} (h : i < (mi.2 4).length) : aput (cpt mem n t mi la g) 28 (i : Int) x = some (cpt mem n t (setL mi 4 ((mi.2 4).set i x)) la g) := by
  have h := pd4 (mem := (cpt mem n t mi la g)) (B := 24) (d := mi) (x := x) h
  rwa [cp24, cp24] at h
theorem qa24_5 {i : Nat} (h : i < (mi.2 5).length) : aget (cpt mem n t mi la g) 29 (i : Int) = some (vI ((mi.2 5).getD i 0)) := by
  rw [← cp24 (mi := mi) (d := mi)]
  exact ad5 h
theorem qs24_5 {i : Nat} {x : Int} (h : i < (mi.2 5).length) : aput (cpt mem n t mi la g) 29 (i : Int) x = some (cpt mem n t (setL mi 5 ((mi.2 5).set i x)) la g) := by
  have h := pd5 (mem := (cpt mem n t mi la g)) (B := 24) (d := mi) (x := x) h
  rwa [cp24, cp24] at h
theorem qa24_6 {i : Nat} (h : i < (mi.2 6).length) : aget (cpt mem n t mi la g) 30 (i : Int) = some (vI ((mi.2 6).getD i 0)) := by
  rw [← cp24 (mi := mi) (d := mi)]
  exact ad6 h
theorem qs24_6 {i : Nat} {x : Int} (h : i < (mi.2 6).length) : aput (cpt mem n t mi la g) 30 (i : Int) x = some (cpt mem n t (setL mi 6 ((mi.2 6).set i x)) la g) := by
  have h := pd6 (mem := (cpt mem n t mi la g)) (B := 24) (d := mi) (x := x) h
  rwa [cp24, cp24] at h
theorem qa24_7 {i : Nat} (h : i < (mi.2 7).length) : aget (cpt mem n t mi la g) 31 (i : Int) = some (vI ((mi.2 7).getD i 0)) := by
  rw [← cp24 (mi := mi) (d := mi)]
  exact ad7 h
theorem qs24_7 {i : Nat} {x : Int} (h : i < (mi.2 7).length) : aput (cpt mem n t mi la g) 31 (i : Int) x = some (cpt mem n t (setL mi 7 ((mi.2 7).set i x)) la g) := by
  have h := pd7 (mem := (cpt mem n t mi la g)) (B := 24) (d := mi) (x := x) h
  rwa [cp24, cp24] at h
theorem qa24_8 {i : Nat} (h : i < (mi.2 8).length) : aget (cpt mem n t mi la g) 32 (i : Int) = some (vI ((mi.2 8).getD i 0)) := by
  rw [← cp24 (mi := mi) (d := mi)]
  exact ad8 h
theorem qs24_8 {i : Nat} {x : Int} (h : i < (mi.2 8).length) : aput (cpt mem n t mi la g) 32 (i : Int) x = some (cpt mem n t (setL mi 8 ((mi.2 8).set i x)) la g) := by
  have h := pd8 (mem := (cpt mem n t mi la g)) (B := 24) (d := mi) (x := x) h
  rwa [cp24, cp24] at h
theorem qa24_9 {i : Nat} (h : i < (mi.2 9).length) : aget (cpt mem n t mi la g) 33 (i : Int) = some (vI ((mi.2 9).getD i 0)) := by
  rw [← cp24 (mi := mi) (d := mi)]
  exact ad9 h
theorem qs24_9 {i : Nat} {x : Int} (h : i < (mi.2 9).length) : aput (cpt mem n t mi la g) 33 (i : Int) x = some (cpt mem n t (setL mi 9 ((mi.2 9).set i x)) la g) := by
  have h := pd9 (mem := (cpt mem n t mi la g)) (B := 24) (d := mi) (x := x) h
  rwa [cp24, cp24] at h
theorem qa24_10 {i : Nat} (h : i < (mi.2 10).length) : aget (cpt mem n t mi la g) 34 (i : Int) = some (vI ((mi.2 10).getD i 0)) := by
  rw [← cp24 (mi := mi) (d := mi)]
  exact ad10 h
theorem qs24_10 {i : Nat} {x : Int} (h : i < (mi.2 10).length) : aput (cpt mem n t mi la g) 34 (i : Int) x = some (cpt mem n t (setL mi 10 ((mi.2 10).set i x)) la g) := by
  have h := pd10 (mem := (cpt mem n t mi la g)) (B := 24) (d := mi) (x := x) h
  rwa [cp24, cp24] at h
theorem q35_0 : fget (cpt mem n t mi la g) 35 0 0 = some (vI (la.1 0)) := by
  rw [← cp35 (la := la) (d := la)]
  exact fd0
theorem q35_1 : fget (cpt mem n t mi la g) 35 0 1 = some (vI (la.1 1)) := by
  rw [← cp35 (la := la) (d := la)]
  exact fd1
theorem q35_2 : fget (cpt mem n t mi la g) 35 0 2 = some (vI (la.1 2)) := by
  rw [← cp35 (la := la) (d := la)]
  exact fd2
theorem q35_3 : fget (cpt mem n t mi la g) 35 0 3 = some (vR 36) := by
  rw [← cp35 (la := la) (d := la)]
  exact fd3
theorem q35_4 : fget (cpt mem n t mi la g) 35 0 4 = some (vR 37) := by
  rw [← cp35 (la := la) (d := la)]
  exact fd4
theorem q35_5 : fget (cpt mem n t mi la g) 35 0 5 = some (vR 38) := by
  rw [← cp35 (la := la) (d := la)]
  exact fd5
theorem q35_6 : fget (cpt mem n t mi la g) 35 0 6 = some (vR 39) := by
  rw [← cp35 (la := la) (d := la)]
  exact fd6
theorem q35_7 : fget (cpt mem n t mi la g) 35 0 7 = some (vR 40) := by
  rw [← cp35 (la := la) (d := la)]
  exact fd7
theorem q35_8 : fget (cpt mem n t mi la g) 35 0 8 = some (vR 41) := by
  rw [← cp35 (la := la) (d := la)]
  exact fd8
theorem q35_9 : fget (cpt mem n t mi la g) 35 0 9 = some (vR 42) := by
  rw [← cp35 (la := la) (d := la)]
  exact fd9
theorem q35_10 : fget (cpt mem n t mi la g) 35 0 10 = some (vR 43) := by
  rw [← cp35 (la := la) (d := la)]
  exact fd10
theorem q35_11 : fget (cpt mem n t mi la g) 35 0 11 = some (vR 44) := by
  rw [← cp35 (la := la) (d := la)]
  exact fd11
theorem q35_12 : fget (cpt mem n t mi la g) 35 0 12 = some (vR 45) := by
  rw [← cp35 (la := la) (d := la)]
  exact fd12
theorem qp35_0 {x : Int} : fput (cpt mem n t mi la g) 35 0 0 (vI x) = some (cpt mem n t mi (setS la 0 x) g) := by
  have h := fp0 (mem := (cpt mem n t mi la g)) (B := 35) (d := la) (x := x)
  rwa [cp35, cp35] at h
theorem qp35_1 {x : Int} : fput (cpt mem n t mi la g) 35 0 1 (vI x) = some (cpt mem n t mi (setS la 1 x) g) := by
  have h := fp1 (mem := (cpt mem n t mi la g)) (B := 35) (d := la) (x := x)
  rwa [cp35, cp35] at h
theorem qp35_2 {x : Int} : fput (cpt mem n t mi la g) 35 0 2 (vI x) = some (cpt mem n t mi (setS la 2 x) g) := by
  have h := fp2 (mem := (cpt mem n t mi la g)) (B := 35) (d := la) (x := x)
  rwa [cp35, cp35] at h
theorem qa35_1 {i : Nat} (h : i < (la.2 1).length) : aget (cpt mem n t mi la g) 36 (i : Int) = some (vI ((la.2 1).getD i 0)) := by
  rw [← cp35 (la := la) (d := la)]
  exact ad1 h
theorem qs35_1 {i : Nat} {x : Int} (h : i < (la.2 1).length) : aput (cpt mem n t mi la g) 36 (i : Int) x = some (cpt mem n t mi (setL la 1 ((la.2 1).set i x)) g) := by
  have h := pd1 (mem := (cpt mem n t mi la g)) (B := 35) (d := la) (x := x) h
  rwa [cp35, cp35] at h
theorem qa35_2 {i : Nat} (h : i < (la.2 2).length) : aget (cpt mem n t mi la g) 37 (i : Int) = some (vI ((la.2 2).getD i 0)) := by
  rw [← cp35 (la := la) (d := la)]
  exact ad2 h
theorem qs35_2 {i : Nat} {x : Int} (h : i < (la.2 2).length) : aput (cpt mem n t mi la g) 37 (i : Int) x = some (cpt mem n t mi (setL la 2 ((la.2 2).set i x)) g) := by
  have h := pd2 (mem := (cpt mem n t mi la g)) (B := 35) (d := la) (x := x) h
  rwa [cp35, cp35] at h
theorem qa35_3 {i : Nat} (h : i < (la.2 3).length) : aget (cpt mem n t mi la g) 38 (i : Int) = some (vI ((la.2 3).getD i 0)) := by
  rw [← cp35 (la := la) (d := la)]
  exact ad3 h
theorem qs35_3 {i : Nat} {x : Int} (h : i < (la.2 3).length) : aput (cpt mem n t mi la g) 38 (i : Int) x = some (cpt mem n t mi (setL la 3 ((la.2 3).set i x)) g) := by
  have h := pd3 (mem := (cpt mem n t mi la g)) (B := 35) (d := la) (x := x) h
  rwa [cp35, cp35] at h
theorem qa35_4 {i : Nat} (h : i < (la.2 4).length) : aget (cpt mem n t mi la g) 39 (i : Int) = some (vI ((la.2 4).getD i 0)) := by
  rw [← cp35 (la := la) (d := la)]
  exact ad4 h
theorem qs35_4 {i : Nat} {x : Int} (h : i < (la.2 4).length) : aput (cpt mem n t mi la g) 39 (i : Int) x = some (cpt mem n t mi (setL la 4 ((la.2 4).set i x)) g) := by
  have h := pd4 (mem := (cpt mem n t mi la g)) (B := 35) (d := la) (x := x) h
  rwa [cp35, cp35] at h
theorem qa35_5 {i : Nat} (h : i < (la.2 5).length) : aget (cpt mem n t mi la g) 40 (i : Int) = some (vI ((la.2 5).getD i 0)) := by
  rw [← cp35 (la := la) (d := la)]
  exact ad5 h
theorem qs35_5 {i : Nat} {x : Int} (h : i < (la.2 5).length) : aput (cpt mem n t mi la g) 40 (i : Int) x = some (cpt mem n t mi (setL la 5 ((la.2 5).set i x)) g) := by
  have h := pd5 (mem := (cpt mem n t mi la g)) (B := 35) (d := la) (x := x) h
  rwa [cp35, cp35] at h
theorem qa35_6 {i : Nat} (h : i < (la.2 6).length) : aget (cpt mem n t mi la g) 41 (i : Int) = some (vI ((la.2 6).getD i 0)) := by
  rw [← cp35 (la := la) (d := la)]
  exact ad6 h
theorem qs35_6 {i : Nat} {x : Int} (h : i < (la.2 6).length) : aput (cpt mem n t mi la g) 41 (i : Int) x = some (cpt mem n t mi (setL la 6 ((la.2 6).set i x)) g) := by
  have h := pd6 (mem := (cpt mem n t mi la g)) (B := 35) (d := la) (x := x) h
  rwa [cp35, cp35] at h
theorem qa35_7 {i : Nat} (h : i < (la.2 7).length) : aget (cpt mem n t mi la g) 42 (i : Int) = some (vI ((la.2 7).getD i 0)) := by
  rw [← cp35 (la := la) (d := la)]
  exact ad7 h
theorem qs35_7 {i : Nat} {x : Int} (h : i < (la.2 7).length) : aput (cpt mem n t mi la g) 42 (i : Int) x = some (cpt mem n t mi (setL la 7 ((la.2 7).set i x)) g) := by
  have h := pd7 (mem := (cpt mem n t mi la g)) (B := 35) (d := la) (x := x) h
  rwa [cp35, cp35] at h
theorem qa35_8 {i : Nat} (h : i < (la.2 8).length) : aget (cpt mem n t mi la g) 43 (i : Int) = some (vI ((la.2 8).getD i 0)) := by
  rw [← cp35 (la := la) (d := la)]
  exact ad8 h
theorem qs35_8 {i : Nat} {x : Int} (h : i < (la.2 8).length) : aput (cpt mem n t mi la g) 43 (i : Int) x = some (cpt mem n t mi (setL la 8 ((la.2 8).set i x)) g) := by
  have h := pd8 (mem := (cpt mem n t mi la g)) (B := 35) (d := la) (x := x) h
  rwa [cp35, cp35] at h
theorem qa35_9 {i : Nat} (h : i < (la.2 9).length) : aget (cpt mem n t mi la g) 44 (i : Int) = some (vI ((la.2 9).getD i 0)) := by
  rw [← cp35 (la := la) (d := la)]
  exact ad9 h
theorem qs35_9 {i : Nat} {x : Int} (h : i < (la.2 9).length) : aput (cpt mem n t mi la g) 44 (i : Int) x = some (cpt mem n t mi (setL la 9 ((la.2 9).set i x)) g) := by
  have h := pd9 (mem := (cpt mem n t mi la g)) (B := 35) (d := la) (x := x) h
  rwa [cp35, cp35] at h
theorem qa35_10 {i : Nat} (h : i < (la.2 10).length) : aget (cpt mem n t mi la g) 45 (i : Int) = some (vI ((la.2 10).getD i 0)) := by
  rw [← cp35 (la := la) (d := la)]
  exact ad10 h
theorem qs35_10 {i : Nat} {x : Int} (h : i < (la.2 10).length) : aput (cpt mem n t mi la g) 45 (i : Int) x = some (cpt mem n t mi (setL la 10 ((la.2 10).set i x)) g) := by
  have h := pd10 (mem := (cpt mem n t mi la g)) (B := 35) (d := la) (x := x) h
  rwa [cp35, cp35] at h
theorem n_hasPerson {p : Int} : ev X m_X0_hasPerson 0 [vR 1, vI p] [] (cpt mem d t mi la g) = some (some (vI (if 0 ≤ p ∧ p < d.1 0 then 1 else 0)), cpt mem d t mi la g) := C1 (fun _ => by apply T0_hasPerson <;> assumption)
theorem m_hasPerson {p : Int} : ev X m_X0_hasPerson 0 [vR 24, vI p] [] (cpt mem n t d la g) = some (some (vI (if 0 ≤ p ∧ p < d.1 0 then 1 else 0)), cpt mem n t d la g) := C24 (fun _ => by apply T0_hasPerson <;> assumption)
theorem l_hasPerson {p : Int} : ev X m_X0_hasPerson 0 [vR 35, vI p] [] (cpt mem n t mi d g) = some (some (vI (if 0 ≤ p ∧ p < d.1 0 then 1 else 0)), cpt mem n t mi d g) := C35 (fun _ => by apply T0_hasPerson <;> assumption)
theorem n_hasParcel {p : Int} : ev X m_X0_hasParcel 0 [vR 1, vI p] [] (cpt mem d t mi la g) = some (some (vI (if 0 ≤ p ∧ p < d.1 1 then 1 else 0)), cpt mem d t mi la g) := C1 (fun _ => by apply T0_hasParcel <;> assumption)
theorem m_hasParcel {p : Int} : ev X m_X0_hasParcel 0 [vR 24, vI p] [] (cpt mem n t d la g) = some (some (vI (if 0 ≤ p ∧ p < d.1 1 then 1 else 0)), cpt mem n t d la g) := C24 (fun _ => by apply T0_hasParcel <;> assumption)
theorem l_hasParcel {p : Int} : ev X m_X0_hasParcel 0 [vR 35, vI p] [] (cpt mem n t mi d g) = some (some (vI (if 0 ≤ p ∧ p < d.1 1 then 1 else 0)), cpt mem n t mi d g) := C35 (fun _ => by apply T0_hasParcel <;> assumption)
theorem n_hasPair {p q : Int} : ev X m_X0_hasPair 0 [vR 1, vI p, vI q] [] (cpt mem d t mi la g) = some (some (vI (if 0 ≤ p ∧ p < d.1 0 ∧ 0 ≤ q ∧ q < d.1 0 ∧ p ≠ q then 1 else 0)), cpt mem d t mi la g) := C1 (fun _ => by apply T0_hasPair <;> assumption)
theorem m_hasPair {p q : Int} : ev X m_X0_hasPair 0 [vR 24, vI p, vI q] [] (cpt mem n t d la g) = some (some (vI (if 0 ≤ p ∧ p < d.1 0 ∧ 0 ≤ q ∧ q < d.1 0 ∧ p ≠ q then 1 else 0)), cpt mem n t d la g) := C24 (fun _ => by apply T0_hasPair <;> assumption)
theorem l_hasPair {p q : Int} : ev X m_X0_hasPair 0 [vR 35, vI p, vI q] [] (cpt mem n t mi d g) = some (some (vI (if 0 ≤ p ∧ p < d.1 0 ∧ 0 ≤ q ∧ q < d.1 0 ∧ p ≠ q then 1 else 0)), cpt mem n t mi d g) := C35 (fun _ => by apply T0_hasPair <;> assumption)
theorem n_hasPersonY {p : Int} (h : 0 ≤ p ∧ p < d.1 0) : ev X m_X0_hasPerson 0 [vR 1, vI p] [] (cpt mem d t mi la g) = some (some (vI 1), cpt mem d t mi la g) := C1 (fun _ => by apply T0_hasPersonY <;> assumption)
theorem m_hasPersonY {p : Int} (h : 0 ≤ p ∧ p < d.1 0) : ev X m_X0_hasPerson 0 [vR 24, vI p] [] (cpt mem n t d la g) = some (some (vI 1), cpt mem n t d la g) := C24 (fun _ => by apply T0_hasPersonY <;> assumption)
theorem l_hasPersonY {p : Int} (h : 0 ≤ p ∧ p < d.1 0) : ev X m_X0_hasPerson 0 [vR 35, vI p] [] (cpt mem n t mi d g) = some (some (vI 1), cpt mem n t mi d g) := C35 (fun _ => by apply T0_hasPersonY <;> assumption)
theorem n_hasPersonN {p : Int} (h : ¬ (0 ≤ p ∧ p < d.1 0)) : ev X m_X0_hasPerson 0 [vR 1, vI p] [] (cpt mem d t mi la g) = some (some (vI 0), cpt mem d t mi la g) := C1 (fun _ => by apply T0_hasPersonN <;> assumption)
theorem m_hasPersonN {p : Int} (h : ¬ (0 ≤ p ∧ p < d.1 0)) : ev X m_X0_hasPerson 0 [vR 24, vI p] [] (cpt mem n t d la g) = some (some (vI 0), cpt mem n t d la g) := C24 (fun _ => by apply T0_hasPersonN <;> assumption)
theorem l_hasPersonN {p : Int} (h : ¬ (0 ≤ p ∧ p < d.1 0)) : ev X m_X0_hasPerson 0 [vR 35, vI p] [] (cpt mem n t mi d g) = some (some (vI 0), cpt mem n t mi d g) := C35 (fun _ => by apply T0_hasPersonN <;> assumption)
theorem n_hasParcelY {p : Int} (h : 0 ≤ p ∧ p < d.1 1) : ev X m_X0_hasParcel 0 [vR 1, vI p] [] (cpt mem d t mi la g) = some (some (vI 1), cpt mem d t mi la g) := C1 (fun _ => by apply T0_hasParcelY <;> assumption)
theorem m_hasParcelY {p : Int} (h : 0 ≤ p ∧ p < d.1 1) : ev X m_X0_hasParcel 0 [vR 24, vI p] [] (cpt mem n t d la g) = some (some (vI 1), cpt mem n t d la g) := C24 (fun _ => by apply T0_hasParcelY <;> assumption)
theorem l_hasParcelY {p : Int} (h : 0 ≤ p ∧ p < d.1 1) : ev X m_X0_hasParcel 0 [vR 35, vI p] [] (cpt mem n t mi d g) = some (some (vI 1), cpt mem n t mi d g) := C35 (fun _ => by apply T0_hasParcelY <;> assumption)
theorem n_hasParcelN {p : Int} (h : ¬ (0 ≤ p ∧ p < d.1 1)) : ev X m_X0_hasParcel 0 [vR 1, vI p] [] (cpt mem d t mi la g) = some (some (vI 0), cpt mem d t mi la g) := C1 (fun _ => by apply T0_hasParcelN <;> assumption)
theorem m_hasParcelN {p : Int} (h : ¬ (0 ≤ p ∧ p < d.1 1)) : ev X m_X0_hasParcel 0 [vR 24, vI p] [] (cpt mem n t d la g) = some (some (vI 0), cpt mem n t d la g) := C24 (fun _ => by apply T0_hasParcelN <;> assumption)
theorem l_hasParcelN {p : Int} (h : ¬ (0 ≤ p ∧ p < d.1 1)) : ev X m_X0_hasParcel 0 [vR 35, vI p] [] (cpt mem n t mi d g) = some (some (vI 0), cpt mem n t mi d g) := C35 (fun _ => by apply T0_hasParcelN <;> assumption)
theorem n_hasPairY {p q : Int} (h : 0 ≤ p ∧ p < d.1 0 ∧ 0 ≤ q ∧ q < d.1 0 ∧ p ≠ q) : ev X m_X0_hasPair 0 [vR 1, vI p, vI q] [] (cpt mem d t mi la g) = some (some (vI 1), cpt mem d t mi la g) := C1 (fun _ => by apply T0_hasPairY <;> assumption)
theorem m_hasPairY {p q : Int} (h : 0 ≤ p ∧ p < d.1 0 ∧ 0 ≤ q ∧ q < d.1 0 ∧ p ≠ q) : ev X m_X0_hasPair 0 [vR 24, vI p, vI q] [] (cpt mem n t d la g) = some (some (vI 1), cpt mem n t d la g) := C24 (fun _ => by apply T0_hasPairY <;> assumption)
theorem l_hasPairY {p q : Int} (h : 0 ≤ p ∧ p < d.1 0 ∧ 0 ≤ q ∧ q < d.1 0 ∧ p ≠ q) : ev X m_X0_hasPair 0 [vR 35, vI p, vI q] [] (cpt mem n t mi d g) = some (some (vI 1), cpt mem n t mi d g) := C35 (fun _ => by apply T0_hasPairY <;> assumption)
theorem n_hasPairN {p q : Int} (h : ¬ (0 ≤ p ∧ p < d.1 0 ∧ 0 ≤ q ∧ q < d.1 0 ∧ p ≠ q)) : ev X m_X0_hasPair 0 [vR 1, vI p, vI q] [] (cpt mem d t mi la g) = some (some (vI 0), cpt mem d t mi la g) := C1 (fun _ => by apply T0_hasPairN <;> assumption)
theorem m_hasPairN {p q : Int} (h : ¬ (0 ≤ p ∧ p < d.1 0 ∧ 0 ≤ q ∧ q < d.1 0 ∧ p ≠ q)) : ev X m_X0_hasPair 0 [vR 24, vI p, vI q] [] (cpt mem n t d la g) = some (some (vI 0), cpt mem n t d la g) := C24 (fun _ => by apply T0_hasPairN <;> assumption)
theorem l_hasPairN {p q : Int} (h : ¬ (0 ≤ p ∧ p < d.1 0 ∧ 0 ≤ q ∧ q < d.1 0 ∧ p ≠ q)) : ev X m_X0_hasPair 0 [vR 35, vI p, vI q] [] (cpt mem n t mi d g) = some (some (vI 0), cpt mem n t mi d g) := C35 (fun _ => by apply T0_hasPairN <;> assumption)
theorem n_maliceOf (hL : DL d) (h6 : d.1 0 ≤ 6) {i j : Nat} (hi : (i : Int) < d.1 0) (hj : (j : Int) < d.1 0) (hij : i ≠ j) : ev X m_X0_maliceOf 0 [vR 1, vI (i : Int), vI (j : Int), vS, vS, vS, vS] [] (cpt mem d t mi la g) = some (some (vI (mal d i j)), cpt mem d t mi la g) := C1 (fun _ => by apply T0_maliceOf <;> assumption)
theorem m_maliceOf (hL : DL d) (h6 : d.1 0 ≤ 6) {i j : Nat} (hi : (i : Int) < d.1 0) (hj : (j : Int) < d.1 0) (hij : i ≠ j) : ev X m_X0_maliceOf 0 [vR 24, vI (i : Int), vI (j : Int), vS, vS, vS, vS] [] (cpt mem n t d la g) = some (some (vI (mal d i j)), cpt mem n t d la g) := C24 (fun _ => by apply T0_maliceOf <;> assumption)
theorem l_maliceOf (hL : DL d) (h6 : d.1 0 ≤ 6) {i j : Nat} (hi : (i : Int) < d.1 0) (hj : (j : Int) < d.1 0) (hij : i ≠ j) : ev X m_X0_maliceOf 0 [vR 35, vI (i : Int), vI (j : Int), vS, vS, vS, vS] [] (cpt mem n t mi d g) = some (some (vI (mal d i j)), cpt mem n t mi d g) := C35 (fun _ => by apply T0_maliceOf <;> assumption)
theorem n_maliceSelf (h6 : d.1 0 ≤ 6) {i : Nat} (hi : (i : Int) < d.1 0) : ev X m_X0_maliceOf 0 [vR 1, vI (i : Int), vI (i : Int), vS, vS, vS, vS] [] (cpt mem d t mi la g) = some (some (vI 0), cpt mem d t mi la g) := C1 (fun _ => by apply T0_maliceSelf <;> assumption)
theorem m_maliceSelf (h6 : d.1 0 ≤ 6) {i : Nat} (hi : (i : Int) < d.1 0) : ev X m_X0_maliceOf 0 [vR 24, vI (i : Int), vI (i : Int), vS, vS, vS, vS] [] (cpt mem n t d la g) = some (some (vI 0), cpt mem n t d la g) := C24 (fun _ => by apply T0_maliceSelf <;> assumption)
theorem l_maliceSelf (h6 : d.1 0 ≤ 6) {i : Nat} (hi : (i : Int) < d.1 0) : ev X m_X0_maliceOf 0 [vR 35, vI (i : Int), vI (i : Int), vS, vS, vS, vS] [] (cpt mem n t mi d g) = some (some (vI 0), cpt mem n t mi d g) := C35 (fun _ => by apply T0_maliceSelf <;> assumption)
theorem n_enemyOf (hL : DL d) (h6 : d.1 0 ≤ 6) {q : Nat} {but : Int} (hq : (q : Int) < d.1 0) : ev X m_X0_enemyOf 0 [vR 1, vI (q : Int), vI but, vS, vS, vS, vS] [] (cpt mem d t mi la g) = some (some (vI (ene d q but)), cpt mem d t mi la g) := C1 (fun _ => by apply T0_enemyOf <;> assumption)
theorem m_enemyOf (hL : DL d) (h6 : d.1 0 ≤ 6) {q : Nat} {but : Int} (hq : (q : Int) < d.1 0) : ev X m_X0_enemyOf 0 [vR 24, vI (q : Int), vI but, vS, vS, vS, vS] [] (cpt mem n t d la g) = some (some (vI (ene d q but)), cpt mem n t d la g) := C24 (fun _ => by apply T0_enemyOf <;> assumption)
theorem l_enemyOf (hL : DL d) (h6 : d.1 0 ≤ 6) {q : Nat} {but : Int} (hq : (q : Int) < d.1 0) : ev X m_X0_enemyOf 0 [vR 35, vI (q : Int), vI but, vS, vS, vS, vS] [] (cpt mem n t mi d g) = some (some (vI (ene d q but)), cpt mem n t mi d g) := C35 (fun _ => by apply T0_enemyOf <;> assumption)
theorem n_carries (hL : DL d) (h8 : d.1 1 ≤ 8) {p : Int} : ev X m_X0_carries 0 [vR 1, vI p, vS] [] (cpt mem d t mi la g) = some (some (vI (if car d p = true then 1 else 0)), cpt mem d t mi la g) := C1 (fun _ => by apply T0_carries <;> assumption)
theorem m_carries (hL : DL d) (h8 : d.1 1 ≤ 8) {p : Int} : ev X m_X0_carries 0 [vR 24, vI p, vS] [] (cpt mem n t d la g) = some (some (vI (if car d p = true then 1 else 0)), cpt mem n t d la g) := C24 (fun _ => by apply T0_carries <;> assumption)
theorem l_carries (hL : DL d) (h8 : d.1 1 ≤ 8) {p : Int} : ev X m_X0_carries 0 [vR 35, vI p, vS] [] (cpt mem n t mi d g) = some (some (vI (if car d p = true then 1 else 0)), cpt mem n t mi d g) := C35 (fun _ => by apply T0_carries <;> assumption)
theorem n_brought (hL : DL d) (h8 : d.1 1 ≤ 8) : ev X m_X0_brought 0 [vR 1, vS, vS] [] (cpt mem d t mi la g) = some (some (vI ((bro d : Nat) : Int)), cpt mem d t mi la g) := C1 (fun _ => by apply T0_brought <;> assumption)
theorem m_brought (hL : DL d) (h8 : d.1 1 ≤ 8) : ev X m_X0_brought 0 [vR 24, vS, vS] [] (cpt mem n t d la g) = some (some (vI ((bro d : Nat) : Int)), cpt mem n t d la g) := C24 (fun _ => by apply T0_brought <;> assumption)
theorem l_brought (hL : DL d) (h8 : d.1 1 ≤ 8) : ev X m_X0_brought 0 [vR 35, vS, vS] [] (cpt mem n t mi d g) = some (some (vI ((bro d : Nat) : Int)), cpt mem n t mi d g) := C35 (fun _ => by apply T0_brought <;> assumption)
theorem n_parcelsThat (hL : DL d) (h8 : d.1 1 ≤ 8) {x : Int} : ev X m_X0_parcelsThat 0 [vR 1, vI x, vS, vS] [] (cpt mem d t mi la g) = some (some (vI (thS d x)), cpt mem d t mi la g) := C1 (fun _ => by apply T0_parcelsThat <;> assumption)
theorem m_parcelsThat (hL : DL d) (h8 : d.1 1 ≤ 8) {x : Int} : ev X m_X0_parcelsThat 0 [vR 24, vI x, vS, vS] [] (cpt mem n t d la g) = some (some (vI (thS d x)), cpt mem n t d la g) := C24 (fun _ => by apply T0_parcelsThat <;> assumption)
theorem l_parcelsThat (hL : DL d) (h8 : d.1 1 ≤ 8) {x : Int} : ev X m_X0_parcelsThat 0 [vR 35, vI x, vS, vS] [] (cpt mem n t mi d g) = some (some (vI (thS d x)), cpt mem n t mi d g) := C35 (fun _ => by apply T0_parcelsThat <;> assumption)
theorem n_hatesTogether (hL : DL d) : ev X m_X0_hatesTogether 0 [vR 1, vS, vS] [] (cpt mem d t mi la g) = some (some (vI (sumH d)), cpt mem d t mi la g) := C1 (fun _ => by apply T0_hatesTogether <;> assumption)
theorem m_hatesTogether (hL : DL d) : ev X m_X0_hatesTogether 0 [vR 24, vS, vS] [] (cpt mem n t d la g) = some (some (vI (sumH d)), cpt mem n t d la g) := C24 (fun _ => by apply T0_hatesTogether <;> assumption)
theorem l_hatesTogether (hL : DL d) : ev X m_X0_hatesTogether 0 [vR 35, vS, vS] [] (cpt mem n t mi d g) = some (some (vI (sumH d)), cpt mem n t mi d g) := C35 (fun _ => by apply T0_hatesTogether <;> assumption)
theorem n_maliceOfAll (hL : DL d) (h6 : d.1 0 ≤ 6) {q : Nat} (hq : (q : Int) < d.1 0) : ev X m_X0_maliceOfAll 0 [vR 1, vI (q : Int), vS, vS] [] (cpt mem d t mi la g) = some (some (vI (mfa d q)), cpt mem d t mi la g) := C1 (fun _ => by apply T0_maliceOfAll <;> assumption)
theorem m_maliceOfAll (hL : DL d) (h6 : d.1 0 ≤ 6) {q : Nat} (hq : (q : Int) < d.1 0) : ev X m_X0_maliceOfAll 0 [vR 24, vI (q : Int), vS, vS] [] (cpt mem n t d la g) = some (some (vI (mfa d q)), cpt mem n t d la g) := C24 (fun _ => by apply T0_maliceOfAll <;> assumption)
theorem l_maliceOfAll (hL : DL d) (h6 : d.1 0 ≤ 6) {q : Nat} (hq : (q : Int) < d.1 0) : ev X m_X0_maliceOfAll 0 [vR 35, vI (q : Int), vS, vS] [] (cpt mem n t mi d g) = some (some (vI (mfa d q)), cpt mem n t mi d g) := C35 (fun _ => by apply T0_maliceOfAll <;> assumption)
theorem n_enemyOfHowMany (hL : DL d) (h6 : d.1 0 ≤ 6) {p : Int} : ev X m_X0_enemyOfHowMany 0 [vR 1, vI p, vS, vS] [] (cpt mem d t mi la g) = some (some (vI ((hmy d p : Nat) : Int)), cpt mem d t mi la g) := C1 (fun _ => by apply T0_enemyOfHowMany <;> assumption)
theorem m_enemyOfHowMany (hL : DL d) (h6 : d.1 0 ≤ 6) {p : Int} : ev X m_X0_enemyOfHowMany 0 [vR 24, vI p, vS, vS] [] (cpt mem n t d la g) = some (some (vI ((hmy d p : Nat) : Int)), cpt mem n t d la g) := C24 (fun _ => by apply T0_enemyOfHowMany <;> assumption)
theorem l_enemyOfHowMany (hL : DL d) (h6 : d.1 0 ≤ 6) {p : Int} : ev X m_X0_enemyOfHowMany 0 [vR 35, vI p, vS, vS] [] (cpt mem n t mi d g) = some (some (vI ((hmy d p : Nat) : Int)), cpt mem n t mi d g) := C35 (fun _ => by apply T0_enemyOfHowMany <;> assumption)
theorem n_stateOf (hL : DL d) {c : Nat} (hc : (c : Int) < d.1 1) (h8 : d.1 1 ≤ 8) : ev X m_X0_stateOf 0 [vR 1, vI (c : Int)] [] (cpt mem d t mi la g) = some (some (vI ((d.2 8).getD c 0)), cpt mem d t mi la g) := C1 (fun _ => by apply T0_stateOf <;> assumption)
theorem m_stateOf (hL : DL d) {c : Nat} (hc : (c : Int) < d.1 1) (h8 : d.1 1 ≤ 8) : ev X m_X0_stateOf 0 [vR 24, vI (c : Int)] [] (cpt mem n t d la g) = some (some (vI ((d.2 8).getD c 0)), cpt mem n t d la g) := C24 (fun _ => by apply T0_stateOf <;> assumption)
theorem l_stateOf (hL : DL d) {c : Nat} (hc : (c : Int) < d.1 1) (h8 : d.1 1 ≤ 8) : ev X m_X0_stateOf 0 [vR 35, vI (c : Int)] [] (cpt mem n t mi d g) = some (some (vI ((d.2 8).getD c 0)), cpt mem n t mi d g) := C35 (fun _ => by apply T0_stateOf <;> assumption)
theorem n_receiverOf (hL : DL d) {c : Nat} (hc : (c : Int) < d.1 1) (h8 : d.1 1 ≤ 8) : ev X m_X0_receiverOf 0 [vR 1, vI (c : Int)] [] (cpt mem d t mi la g) = some (some (vI ((d.2 6).getD c 0)), cpt mem d t mi la g) := C1 (fun _ => by apply T0_receiverOf <;> assumption)
theorem m_receiverOf (hL : DL d) {c : Nat} (hc : (c : Int) < d.1 1) (h8 : d.1 1 ≤ 8) : ev X m_X0_receiverOf 0 [vR 24, vI (c : Int)] [] (cpt mem n t d la g) = some (some (vI ((d.2 6).getD c 0)), cpt mem n t d la g) := C24 (fun _ => by apply T0_receiverOf <;> assumption)
theorem l_receiverOf (hL : DL d) {c : Nat} (hc : (c : Int) < d.1 1) (h8 : d.1 1 ≤ 8) : ev X m_X0_receiverOf 0 [vR 35, vI (c : Int)] [] (cpt mem n t mi d g) = some (some (vI ((d.2 6).getD c 0)), cpt mem n t mi d g) := C35 (fun _ => by apply T0_receiverOf <;> assumption)
theorem n_carrierOf (hL : DL d) {c : Nat} (hc : (c : Int) < d.1 1) (h8 : d.1 1 ≤ 8) : ev X m_X0_carrierOf 0 [vR 1, vI (c : Int)] [] (cpt mem d t mi la g) = some (some (vI ((d.2 9).getD c 0)), cpt mem d t mi la g) := C1 (fun _ => by apply T0_carrierOf <;> assumption)
theorem m_carrierOf (hL : DL d) {c : Nat} (hc : (c : Int) < d.1 1) (h8 : d.1 1 ≤ 8) : ev X m_X0_carrierOf 0 [vR 24, vI (c : Int)] [] (cpt mem n t d la g) = some (some (vI ((d.2 9).getD c 0)), cpt mem n t d la g) := C24 (fun _ => by apply T0_carrierOf <;> assumption)
theorem l_carrierOf (hL : DL d) {c : Nat} (hc : (c : Int) < d.1 1) (h8 : d.1 1 ≤ 8) : ev X m_X0_carrierOf 0 [vR 35, vI (c : Int)] [] (cpt mem n t mi d g) = some (some (vI ((d.2 9).getD c 0)), cpt mem n t mi d g) := C35 (fun _ => by apply T0_carrierOf <;> assumption)
theorem n_hateOf (hL : DL d) (h6 : d.1 0 ≤ 6) {i j : Nat} (hi : (i : Int) < d.1 0) (hj : (j : Int) < d.1 0) (hij : i ≠ j) : ev X m_X0_hateOf 0 [vR 1, vI (i : Int), vI (j : Int)] [] (cpt mem d t mi la g) = some (some (vI (hat d i j)), cpt mem d t mi la g) := C1 (fun _ => by apply T0_hateOf <;> assumption)
theorem m_hateOf (hL : DL d) (h6 : d.1 0 ≤ 6) {i j : Nat} (hi : (i : Int) < d.1 0) (hj : (j : Int) < d.1 0) (hij : i ≠ j) : ev X m_X0_hateOf 0 [vR 24, vI (i : Int), vI (j : Int)] [] (cpt mem n t d la g) = some (some (vI (hat d i j)), cpt mem n t d la g) := C24 (fun _ => by apply T0_hateOf <;> assumption)
theorem l_hateOf (hL : DL d) (h6 : d.1 0 ≤ 6) {i j : Nat} (hi : (i : Int) < d.1 0) (hj : (j : Int) < d.1 0) (hij : i ≠ j) : ev X m_X0_hateOf 0 [vR 35, vI (i : Int), vI (j : Int)] [] (cpt mem n t mi d g) = some (some (vI (hat d i j)), cpt mem n t mi d g) := C35 (fun _ => by apply T0_hateOf <;> assumption)
theorem n_setHate (hL : DL d) (h6 : d.1 0 ≤ 6) {i j : Nat} {v : Int} (hi : (i : Int) < d.1 0) (hj : (j : Int) < d.1 0) (hij : i ≠ j) : ev X m_X0_setHate 0 [vR 1, vI (i : Int), vI (j : Int), vI v] [] (cpt mem d t mi la g) = some (some (vI 1), cpt mem (setH d i j v) t mi la g) := C1 (fun _ => by apply T0_setHate <;> assumption)
theorem m_setHate (hL : DL d) (h6 : d.1 0 ≤ 6) {i j : Nat} {v : Int} (hi : (i : Int) < d.1 0) (hj : (j : Int) < d.1 0) (hij : i ≠ j) : ev X m_X0_setHate 0 [vR 24, vI (i : Int), vI (j : Int), vI v] [] (cpt mem n t d la g) = some (some (vI 1), cpt mem n t (setH d i j v) la g) := C24 (fun _ => by apply T0_setHate <;> assumption)
theorem l_setHate (hL : DL d) (h6 : d.1 0 ≤ 6) {i j : Nat} {v : Int} (hi : (i : Int) < d.1 0) (hj : (j : Int) < d.1 0) (hij : i ≠ j) : ev X m_X0_setHate 0 [vR 35, vI (i : Int), vI (j : Int), vI v] [] (cpt mem n t mi d g) = some (some (vI 1), cpt mem n t mi (setH d i j v) g) := C35 (fun _ => by apply T0_setHate <;> assumption)
theorem n_setHateNo {i j v : Int} (h : ¬ (0 ≤ i ∧ i < d.1 0 ∧ 0 ≤ j ∧ j < d.1 0 ∧ i ≠ j)) : ev X m_X0_setHate 0 [vR 1, vI i, vI j, vI v] [] (cpt mem d t mi la g) = some (some (vI 0), cpt mem d t mi la g) := C1 (fun _ => by apply T0_setHateNo <;> assumption)
theorem m_setHateNo {i j v : Int} (h : ¬ (0 ≤ i ∧ i < d.1 0 ∧ 0 ≤ j ∧ j < d.1 0 ∧ i ≠ j)) : ev X m_X0_setHate 0 [vR 24, vI i, vI j, vI v] [] (cpt mem n t d la g) = some (some (vI 0), cpt mem n t d la g) := C24 (fun _ => by apply T0_setHateNo <;> assumption)
theorem l_setHateNo {i j v : Int} (h : ¬ (0 ≤ i ∧ i < d.1 0 ∧ 0 ≤ j ∧ j < d.1 0 ∧ i ≠ j)) : ev X m_X0_setHate 0 [vR 35, vI i, vI j, vI v] [] (cpt mem n t mi d g) = some (some (vI 0), cpt mem n t mi d g) := C35 (fun _ => by apply T0_setHateNo <;> assumption)
theorem n_addHate (hL : DL d) (h6 : d.1 0 ≤ 6) {i j : Nat} {x : Int} {z : AV} (hi : (i : Int) < d.1 0) (hj : (j : Int) < d.1 0) (hij : i ≠ j) : ev X m_X0_addHate 0 [vR 1, vI (i : Int), vI (j : Int), vI x, z] [] (cpt mem d t mi la g) = some (some (vI 1), cpt mem (addH d i j x) t mi la g) := C1 (fun _ => by apply T0_addHate <;> assumption)
theorem m_addHate (hL : DL d) (h6 : d.1 0 ≤ 6) {i j : Nat} {x : Int} {z : AV} (hi : (i : Int) < d.1 0) (hj : (j : Int) < d.1 0) (hij : i ≠ j) : ev X m_X0_addHate 0 [vR 24, vI (i : Int), vI (j : Int), vI x, z] [] (cpt mem n t d la g) = some (some (vI 1), cpt mem n t (addH d i j x) la g) := C24 (fun _ => by apply T0_addHate <;> assumption)
theorem l_addHate (hL : DL d) (h6 : d.1 0 ≤ 6) {i j : Nat} {x : Int} {z : AV} (hi : (i : Int) < d.1 0) (hj : (j : Int) < d.1 0) (hij : i ≠ j) : ev X m_X0_addHate 0 [vR 35, vI (i : Int), vI (j : Int), vI x, z] [] (cpt mem n t mi d g) = some (some (vI 1), cpt mem n t mi (addH d i j x) g) := C35 (fun _ => by apply T0_addHate <;> assumption)
theorem n_addHateNo {i j x : Int} {z : AV} (h : ¬ (0 ≤ i ∧ i < d.1 0 ∧ 0 ≤ j ∧ j < d.1 0 ∧ i ≠ j)) : ev X m_X0_addHate 0 [vR 1, vI i, vI j, vI x, z] [] (cpt mem d t mi la g) = some (some (vI 0), cpt mem d t mi la g) := C1 (fun _ => by apply T0_addHateNo <;> assumption)
theorem m_addHateNo {i j x : Int} {z : AV} (h : ¬ (0 ≤ i ∧ i < d.1 0 ∧ 0 ≤ j ∧ j < d.1 0 ∧ i ≠ j)) : ev X m_X0_addHate 0 [vR 24, vI i, vI j, vI x, z] [] (cpt mem n t d la g) = some (some (vI 0), cpt mem n t d la g) := C24 (fun _ => by apply T0_addHateNo <;> assumption)
theorem l_addHateNo {i j x : Int} {z : AV} (h : ¬ (0 ≤ i ∧ i < d.1 0 ∧ 0 ≤ j ∧ j < d.1 0 ∧ i ≠ j)) : ev X m_X0_addHate 0 [vR 35, vI i, vI j, vI x, z] [] (cpt mem n t mi d g) = some (some (vI 0), cpt mem n t mi d g) := C35 (fun _ => by apply T0_addHateNo <;> assumption)
theorem n_makePeace (hL : DL d) (h6 : d.1 0 ≤ 6) {i j : Nat} (hi : (i : Int) < d.1 0) (hj : (j : Int) < d.1 0) (hij : i ≠ j) : ev X m_X0_makePeace 0 [vR 1, vI (i : Int), vI (j : Int)] [] (cpt mem d t mi la g) = some (some (vI 1), cpt mem (peace d i j) t mi la g) := C1 (fun _ => by apply T0_makePeace <;> assumption)
theorem m_makePeace (hL : DL d) (h6 : d.1 0 ≤ 6) {i j : Nat} (hi : (i : Int) < d.1 0) (hj : (j : Int) < d.1 0) (hij : i ≠ j) : ev X m_X0_makePeace 0 [vR 24, vI (i : Int), vI (j : Int)] [] (cpt mem n t d la g) = some (some (vI 1), cpt mem n t (peace d i j) la g) := C24 (fun _ => by apply T0_makePeace <;> assumption)
theorem l_makePeace (hL : DL d) (h6 : d.1 0 ≤ 6) {i j : Nat} (hi : (i : Int) < d.1 0) (hj : (j : Int) < d.1 0) (hij : i ≠ j) : ev X m_X0_makePeace 0 [vR 35, vI (i : Int), vI (j : Int)] [] (cpt mem n t mi d g) = some (some (vI 1), cpt mem n t mi (peace d i j) g) := C35 (fun _ => by apply T0_makePeace <;> assumption)
theorem n_hateOfNo {i j : Int} (h : ¬ (0 ≤ i ∧ i < d.1 0 ∧ 0 ≤ j ∧ j < d.1 0 ∧ i ≠ j)) : ev X m_X0_hateOf 0 [vR 1, vI i, vI j] [] (cpt mem d t mi la g) = some (some (vI 0), cpt mem d t mi la g) := C1 (fun _ => by apply T0_hateOfNo <;> assumption)
theorem m_hateOfNo {i j : Int} (h : ¬ (0 ≤ i ∧ i < d.1 0 ∧ 0 ≤ j ∧ j < d.1 0 ∧ i ≠ j)) : ev X m_X0_hateOf 0 [vR 24, vI i, vI j] [] (cpt mem n t d la g) = some (some (vI 0), cpt mem n t d la g) := C24 (fun _ => by apply T0_hateOfNo <;> assumption)
theorem l_hateOfNo {i j : Int} (h : ¬ (0 ≤ i ∧ i < d.1 0 ∧ 0 ≤ j ∧ j < d.1 0 ∧ i ≠ j)) : ev X m_X0_hateOf 0 [vR 35, vI i, vI j] [] (cpt mem n t mi d g) = some (some (vI 0), cpt mem n t mi d g) := C35 (fun _ => by apply T0_hateOfNo <;> assumption)
theorem n_makePeaceNo {i j : Int} (h : ¬ (0 ≤ i ∧ i < d.1 0 ∧ 0 ≤ j ∧ j < d.1 0 ∧ i ≠ j)) : ev X m_X0_makePeace 0 [vR 1, vI i, vI j] [] (cpt mem d t mi la g) = some (some (vI 0), cpt mem d t mi la g) := C1 (fun _ => by apply T0_makePeaceNo <;> assumption)
theorem m_makePeaceNo {i j : Int} (h : ¬ (0 ≤ i ∧ i < d.1 0 ∧ 0 ≤ j ∧ j < d.1 0 ∧ i ≠ j)) : ev X m_X0_makePeace 0 [vR 24, vI i, vI j] [] (cpt mem n t d la g) = some (some (vI 0), cpt mem n t d la g) := C24 (fun _ => by apply T0_makePeaceNo <;> assumption)
theorem l_makePeaceNo {i j : Int} (h : ¬ (0 ≤ i ∧ i < d.1 0 ∧ 0 ≤ j ∧ j < d.1 0 ∧ i ≠ j)) : ev X m_X0_makePeace 0 [vR 35, vI i, vI j] [] (cpt mem n t mi d g) = some (some (vI 0), cpt mem n t mi d g) := C35 (fun _ => by apply T0_makePeaceNo <;> assumption)
theorem n_apart (h : DW d) {i j : Nat} (hi : (i : Int) < d.1 0) (hj : (j : Int) < d.1 0) (hij : i ≠ j) : ev X m_X0_apart 0 [vR 1, vI (i : Int), vI (j : Int)] [] (cpt mem d t mi la g) = some (some (vI (apt d i j)), cpt mem d t mi la g) := C1 (fun _ => by apply T0_apart <;> assumption)
theorem m_apart (h : DW d) {i j : Nat} (hi : (i : Int) < d.1 0) (hj : (j : Int) < d.1 0) (hij : i ≠ j) : ev X m_X0_apart 0 [vR 24, vI (i : Int), vI (j : Int)] [] (cpt mem n t d la g) = some (some (vI (apt d i j)), cpt mem n t d la g) := C24 (fun _ => by apply T0_apart <;> assumption)
theorem l_apart (h : DW d) {i j : Nat} (hi : (i : Int) < d.1 0) (hj : (j : Int) < d.1 0) (hij : i ≠ j) : ev X m_X0_apart 0 [vR 35, vI (i : Int), vI (j : Int)] [] (cpt mem n t mi d g) = some (some (vI (apt d i j)), cpt mem n t mi d g) := C35 (fun _ => by apply T0_apart <;> assumption)
theorem n_carryOn (h : DW d) {z1 z2 : AV} : ev X m_X0_carryOn 0 [vR 1, z1, z2] [] (cpt mem d t mi la g) = some (none, cpt mem (itr caF (d.1 1).toNat 0 d) t mi la g) := C1 (fun _ => by apply T0_carryOn <;> assumption)
theorem m_carryOn (h : DW d) {z1 z2 : AV} : ev X m_X0_carryOn 0 [vR 24, z1, z2] [] (cpt mem n t d la g) = some (none, cpt mem n t (itr caF (d.1 1).toNat 0 d) la g) := C24 (fun _ => by apply T0_carryOn <;> assumption)
theorem l_carryOn (h : DW d) {z1 z2 : AV} : ev X m_X0_carryOn 0 [vR 35, z1, z2] [] (cpt mem n t mi d g) = some (none, cpt mem n t mi (itr caF (d.1 1).toNat 0 d) g) := C35 (fun _ => by apply T0_carryOn <;> assumption)
theorem n_giveOut (h : DW d) {z1 z2 : AV} : ev X m_X0_giveOut 0 [vR 1, z1, z2] [] (cpt mem d t mi la g) = some (none, cpt mem (itr giF (d.1 1).toNat 0 d) t mi la g) := C1 (fun _ => by apply T0_giveOut <;> assumption)
theorem m_giveOut (h : DW d) {z1 z2 : AV} : ev X m_X0_giveOut 0 [vR 24, z1, z2] [] (cpt mem n t d la g) = some (none, cpt mem n t (itr giF (d.1 1).toNat 0 d) la g) := C24 (fun _ => by apply T0_giveOut <;> assumption)
theorem l_giveOut (h : DW d) {z1 z2 : AV} : ev X m_X0_giveOut 0 [vR 35, z1, z2] [] (cpt mem n t mi d g) = some (none, cpt mem n t mi (itr giF (d.1 1).toNat 0 d) g) := C35 (fun _ => by apply T0_giveOut <;> assumption)
theorem n_coolDown (hL : DL d) {z1 : AV} : ev X m_X0_coolDown 0 [vR 1, z1] [] (cpt mem d t mi la g) = some (none, cpt mem (coo d) t mi la g) := C1 (fun _ => by apply T0_coolDown <;> assumption)
theorem m_coolDown (hL : DL d) {z1 : AV} : ev X m_X0_coolDown 0 [vR 24, z1] [] (cpt mem n t d la g) = some (none, cpt mem n t (coo d) la g) := C24 (fun _ => by apply T0_coolDown <;> assumption)
theorem l_coolDown (hL : DL d) {z1 : AV} : ev X m_X0_coolDown 0 [vR 35, z1] [] (cpt mem n t mi d g) = some (none, cpt mem n t mi (coo d) g) := C35 (fun _ => by apply T0_coolDown <;> assumption)
theorem n_passDay (h : DW d) (s : Bool) : ev X m_X0_passDay 0 [vR 1, vI (if s = true then 1 else 0)] [] (cpt mem d t mi la g) = some (none, cpt mem (pday s d) t mi la g) := C1 (fun _ => by apply T0_passDay <;> assumption)
theorem m_passDay (h : DW d) (s : Bool) : ev X m_X0_passDay 0 [vR 24, vI (if s = true then 1 else 0)] [] (cpt mem n t d la g) = some (none, cpt mem n t (pday s d) la g) := C24 (fun _ => by apply T0_passDay <;> assumption)
theorem l_passDay (h : DW d) (s : Bool) : ev X m_X0_passDay 0 [vR 35, vI (if s = true then 1 else 0)] [] (cpt mem n t mi d g) = some (none, cpt mem n t mi (pday s d) g) := C35 (fun _ => by apply T0_passDay <;> assumption)
theorem n_passDays (h : DW d) {k : Nat} (hn : k < 2147483647) {z : AV} : ev X m_X0_passDays 0 [vR 1, vI (k : Int), z] [] (cpt mem d t mi la g) = some (none, cpt mem (pdays k d) t mi la g) := C1 (fun _ => by apply T0_passDays <;> assumption)
theorem m_passDays (h : DW d) {k : Nat} (hn : k < 2147483647) {z : AV} : ev X m_X0_passDays 0 [vR 24, vI (k : Int), z] [] (cpt mem n t d la g) = some (none, cpt mem n t (pdays k d) la g) := C24 (fun _ => by apply T0_passDays <;> assumption)
theorem l_passDays (h : DW d) {k : Nat} (hn : k < 2147483647) {z : AV} : ev X m_X0_passDays 0 [vR 35, vI (k : Int), z] [] (cpt mem n t mi d g) = some (none, cpt mem n t mi (pdays k d) g) := C35 (fun _ => by apply T0_passDays <;> assumption)
theorem n_addParcel (hL : DL d) (h0 : 0 ≤ d.1 1) {p v : Int} (hp : 0 ≤ p ∧ p < d.1 0) (h8 : d.1 1 < 8) : ev X m_X0_addParcel 0 [vR 1, vI p, vI v] [] (cpt mem d t mi la g) = some (some (vI 1), cpt mem (addP d p v) t mi la g) := C1 (fun _ => by apply T0_addParcel <;> assumption)
theorem m_addParcel (hL : DL d) (h0 : 0 ≤ d.1 1) {p v : Int} (hp : 0 ≤ p ∧ p < d.1 0) (h8 : d.1 1 < 8) : ev X m_X0_addParcel 0 [vR 24, vI p, vI v] [] (cpt mem n t d la g) = some (some (vI 1), cpt mem n t (addP d p v) la g) := C24 (fun _ => by apply T0_addParcel <;> assumption)
theorem l_addParcel (hL : DL d) (h0 : 0 ≤ d.1 1) {p v : Int} (hp : 0 ≤ p ∧ p < d.1 0) (h8 : d.1 1 < 8) : ev X m_X0_addParcel 0 [vR 35, vI p, vI v] [] (cpt mem n t mi d g) = some (some (vI 1), cpt mem n t mi (addP d p v) g) := C35 (fun _ => by apply T0_addParcel <;> assumption)
theorem n_addParcelN {p v : Int} (h : ¬ (d.1 1 < 8 ∧ 0 ≤ p ∧ p < d.1 0)) (h0 : 0 ≤ d.1 1) : ev X m_X0_addParcel 0 [vR 1, vI p, vI v] [] (cpt mem d t mi la g) = some (some (vI 0), cpt mem d t mi la g) := C1 (fun _ => by apply T0_addParcelN <;> assumption)
theorem m_addParcelN {p v : Int} (h : ¬ (d.1 1 < 8 ∧ 0 ≤ p ∧ p < d.1 0)) (h0 : 0 ≤ d.1 1) : ev X m_X0_addParcel 0 [vR 24, vI p, vI v] [] (cpt mem n t d la g) = some (some (vI 0), cpt mem n t d la g) := C24 (fun _ => by apply T0_addParcelN <;> assumption)
theorem l_addParcelN {p v : Int} (h : ¬ (d.1 1 < 8 ∧ 0 ≤ p ∧ p < d.1 0)) (h0 : 0 ≤ d.1 1) : ev X m_X0_addParcel 0 [vR 35, vI p, vI v] [] (cpt mem n t mi d g) = some (some (vI 0), cpt mem n t mi d g) := C35 (fun _ => by apply T0_addParcelN <;> assumption)
theorem n_addPerson (hL : DL d) (h0 : 0 ≤ d.1 0) {k f p : Int} (h6 : d.1 0 < 6) (hp : p ≤ 30) : ev X m_X0_addPerson 0 [vR 1, vI k, vI f, vI p] [] (cpt mem d t mi la g) = some (some (vI 1), cpt mem (setS (setL (setL (setL (setL d 1 ((d.2 1).set (d.1 0).toNat k)) 2 ((d.2 2).set (d.1 0).toNat f)) 3 ((d.2 3).set (d.1 0).toNat p)) 4 ((d.2 4).set (d.1 0).toNat 0)) 0 (w32 (d.1 0 + 1))) t mi la g) := C1 (fun _ => by apply T0_addPerson <;> assumption)
theorem m_addPerson (hL : DL d) (h0 : 0 ≤ d.1 0) {k f p : Int} (h6 : d.1 0 < 6) (hp : p ≤ 30) : ev X m_X0_addPerson 0 [vR 24, vI k, vI f, vI p] [] (cpt mem n t d la g) = some (some (vI 1), cpt mem n t (setS (setL (setL (setL (setL d 1 ((d.2 1).set (d.1 0).toNat k)) 2 ((d.2 2).set (d.1 0).toNat f)) 3 ((d.2 3).set (d.1 0).toNat p)) 4 ((d.2 4).set (d.1 0).toNat 0)) 0 (w32 (d.1 0 + 1))) la g) := C24 (fun _ => by apply T0_addPerson <;> assumption)
theorem l_addPerson (hL : DL d) (h0 : 0 ≤ d.1 0) {k f p : Int} (h6 : d.1 0 < 6) (hp : p ≤ 30) : ev X m_X0_addPerson 0 [vR 35, vI k, vI f, vI p] [] (cpt mem n t mi d g) = some (some (vI 1), cpt mem n t mi (setS (setL (setL (setL (setL d 1 ((d.2 1).set (d.1 0).toNat k)) 2 ((d.2 2).set (d.1 0).toNat f)) 3 ((d.2 3).set (d.1 0).toNat p)) 4 ((d.2 4).set (d.1 0).toNat 0)) 0 (w32 (d.1 0 + 1))) g) := C35 (fun _ => by apply T0_addPerson <;> assumption)
theorem n_addPersonN (h0 : 0 ≤ d.1 0) {k f p : Int} (h6 : ¬ (d.1 0 < 6 ∧ p ≤ 30)) : ev X m_X0_addPerson 0 [vR 1, vI k, vI f, vI p] [] (cpt mem d t mi la g) = some (some (vI 0), cpt mem d t mi la g) := C1 (fun _ => by apply T0_addPersonN <;> assumption)
theorem m_addPersonN (h0 : 0 ≤ d.1 0) {k f p : Int} (h6 : ¬ (d.1 0 < 6 ∧ p ≤ 30)) : ev X m_X0_addPerson 0 [vR 24, vI k, vI f, vI p] [] (cpt mem n t d la g) = some (some (vI 0), cpt mem n t d la g) := C24 (fun _ => by apply T0_addPersonN <;> assumption)
theorem l_addPersonN (h0 : 0 ≤ d.1 0) {k f p : Int} (h6 : ¬ (d.1 0 < 6 ∧ p ≤ 30)) : ev X m_X0_addPerson 0 [vR 35, vI k, vI f, vI p] [] (cpt mem n t mi d g) = some (some (vI 0), cpt mem n t mi d g) := C35 (fun _ => by apply T0_addPersonN <;> assumption)
theorem n_ofPerson0 (hL : DL d) (h6 : d.1 0 ≤ 6) (h8 : d.1 1 ≤ 8) {p : Nat} (hp : (p : Int) < d.1 0) : ev X m_X0_ofPerson 0 [vR 1, vI (p : Int), vI 0] [] (cpt mem d t mi la g) = some (some (vI ((d.2 1).getD p 0)), cpt mem d t mi la g) := C1 (fun _ => by apply T0_ofPerson0 <;> assumption)
theorem m_ofPerson0 (hL : DL d) (h6 : d.1 0 ≤ 6) (h8 : d.1 1 ≤ 8) {p : Nat} (hp : (p : Int) < d.1 0) : ev X m_X0_ofPerson 0 [vR 24, vI (p : Int), vI 0] [] (cpt mem n t d la g) = some (some (vI ((d.2 1).getD p 0)), cpt mem n t d la g) := C24 (fun _ => by apply T0_ofPerson0 <;> assumption)
theorem l_ofPerson0 (hL : DL d) (h6 : d.1 0 ≤ 6) (h8 : d.1 1 ≤ 8) {p : Nat} (hp : (p : Int) < d.1 0) : ev X m_X0_ofPerson 0 [vR 35, vI (p : Int), vI 0] [] (cpt mem n t mi d g) = some (some (vI ((d.2 1).getD p 0)), cpt mem n t mi d g) := C35 (fun _ => by apply T0_ofPerson0 <;> assumption)
theorem n_ofPerson1 (hL : DL d) (h6 : d.1 0 ≤ 6) (h8 : d.1 1 ≤ 8) {p : Nat} (hp : (p : Int) < d.1 0) : ev X m_X0_ofPerson 0 [vR 1, vI (p : Int), vI 1] [] (cpt mem d t mi la g) = some (some (vI ((d.2 2).getD p 0)), cpt mem d t mi la g) := C1 (fun _ => by apply T0_ofPerson1 <;> assumption)
theorem m_ofPerson1 (hL : DL d) (h6 : d.1 0 ≤ 6) (h8 : d.1 1 ≤ 8) {p : Nat} (hp : (p : Int) < d.1 0) : ev X m_X0_ofPerson 0 [vR 24, vI (p : Int), vI 1] [] (cpt mem n t d la g) = some (some (vI ((d.2 2).getD p 0)), cpt mem n t d la g) := C24 (fun _ => by apply T0_ofPerson1 <;> assumption)
theorem l_ofPerson1 (hL : DL d) (h6 : d.1 0 ≤ 6) (h8 : d.1 1 ≤ 8) {p : Nat} (hp : (p : Int) < d.1 0) : ev X m_X0_ofPerson 0 [vR 35, vI (p : Int), vI 1] [] (cpt mem n t mi d g) = some (some (vI ((d.2 2).getD p 0)), cpt mem n t mi d g) := C35 (fun _ => by apply T0_ofPerson1 <;> assumption)
theorem n_ofPerson2 (hL : DL d) (h6 : d.1 0 ≤ 6) (h8 : d.1 1 ≤ 8) {p : Nat} (hp : (p : Int) < d.1 0) : ev X m_X0_ofPerson 0 [vR 1, vI (p : Int), vI 2] [] (cpt mem d t mi la g) = some (some (vI ((d.2 3).getD p 0)), cpt mem d t mi la g) := C1 (fun _ => by apply T0_ofPerson2 <;> assumption)
theorem m_ofPerson2 (hL : DL d) (h6 : d.1 0 ≤ 6) (h8 : d.1 1 ≤ 8) {p : Nat} (hp : (p : Int) < d.1 0) : ev X m_X0_ofPerson 0 [vR 24, vI (p : Int), vI 2] [] (cpt mem n t d la g) = some (some (vI ((d.2 3).getD p 0)), cpt mem n t d la g) := C24 (fun _ => by apply T0_ofPerson2 <;> assumption)
theorem l_ofPerson2 (hL : DL d) (h6 : d.1 0 ≤ 6) (h8 : d.1 1 ≤ 8) {p : Nat} (hp : (p : Int) < d.1 0) : ev X m_X0_ofPerson 0 [vR 35, vI (p : Int), vI 2] [] (cpt mem n t mi d g) = some (some (vI ((d.2 3).getD p 0)), cpt mem n t mi d g) := C35 (fun _ => by apply T0_ofPerson2 <;> assumption)
theorem n_ofPerson3 (hL : DL d) (h6 : d.1 0 ≤ 6) (h8 : d.1 1 ≤ 8) {p : Nat} (hp : (p : Int) < d.1 0) : ev X m_X0_ofPerson 0 [vR 1, vI (p : Int), vI 3] [] (cpt mem d t mi la g) = some (some (vI ((d.2 4).getD p 0)), cpt mem d t mi la g) := C1 (fun _ => by apply T0_ofPerson3 <;> assumption)
theorem m_ofPerson3 (hL : DL d) (h6 : d.1 0 ≤ 6) (h8 : d.1 1 ≤ 8) {p : Nat} (hp : (p : Int) < d.1 0) : ev X m_X0_ofPerson 0 [vR 24, vI (p : Int), vI 3] [] (cpt mem n t d la g) = some (some (vI ((d.2 4).getD p 0)), cpt mem n t d la g) := C24 (fun _ => by apply T0_ofPerson3 <;> assumption)
theorem l_ofPerson3 (hL : DL d) (h6 : d.1 0 ≤ 6) (h8 : d.1 1 ≤ 8) {p : Nat} (hp : (p : Int) < d.1 0) : ev X m_X0_ofPerson 0 [vR 35, vI (p : Int), vI 3] [] (cpt mem n t mi d g) = some (some (vI ((d.2 4).getD p 0)), cpt mem n t mi d g) := C35 (fun _ => by apply T0_ofPerson3 <;> assumption)
theorem n_ofPerson4 (hL : DL d) (h6 : d.1 0 ≤ 6) (h8 : d.1 1 ≤ 8) {p : Nat} (hp : (p : Int) < d.1 0) : ev X m_X0_ofPerson 0 [vR 1, vI (p : Int), vI 4] [] (cpt mem d t mi la g) = some (some (vI (miles ((d.2 1).getD p 0))), cpt mem d t mi la g) := C1 (fun _ => by apply T0_ofPerson4 <;> assumption)
theorem m_ofPerson4 (hL : DL d) (h6 : d.1 0 ≤ 6) (h8 : d.1 1 ≤ 8) {p : Nat} (hp : (p : Int) < d.1 0) : ev X m_X0_ofPerson 0 [vR 24, vI (p : Int), vI 4] [] (cpt mem n t d la g) = some (some (vI (miles ((d.2 1).getD p 0))), cpt mem n t d la g) := C24 (fun _ => by apply T0_ofPerson4 <;> assumption)
theorem l_ofPerson4 (hL : DL d) (h6 : d.1 0 ≤ 6) (h8 : d.1 1 ≤ 8) {p : Nat} (hp : (p : Int) < d.1 0) : ev X m_X0_ofPerson 0 [vR 35, vI (p : Int), vI 4] [] (cpt mem n t mi d g) = some (some (vI (miles ((d.2 1).getD p 0))), cpt mem n t mi d g) := C35 (fun _ => by apply T0_ofPerson4 <;> assumption)
theorem n_ofPerson5 (hL : DL d) (h6 : d.1 0 ≤ 6) (h8 : d.1 1 ≤ 8) {p : Nat} (hp : (p : Int) < d.1 0) : ev X m_X0_ofPerson 0 [vR 1, vI (p : Int), vI 5] [] (cpt mem d t mi la g) = some (some (vI (if car d (p : Int) = true then 1 else 0)), cpt mem d t mi la g) := C1 (fun _ => by apply T0_ofPerson5 <;> assumption)
theorem m_ofPerson5 (hL : DL d) (h6 : d.1 0 ≤ 6) (h8 : d.1 1 ≤ 8) {p : Nat} (hp : (p : Int) < d.1 0) : ev X m_X0_ofPerson 0 [vR 24, vI (p : Int), vI 5] [] (cpt mem n t d la g) = some (some (vI (if car d (p : Int) = true then 1 else 0)), cpt mem n t d la g) := C24 (fun _ => by apply T0_ofPerson5 <;> assumption)
theorem l_ofPerson5 (hL : DL d) (h6 : d.1 0 ≤ 6) (h8 : d.1 1 ≤ 8) {p : Nat} (hp : (p : Int) < d.1 0) : ev X m_X0_ofPerson 0 [vR 35, vI (p : Int), vI 5] [] (cpt mem n t mi d g) = some (some (vI (if car d (p : Int) = true then 1 else 0)), cpt mem n t mi d g) := C35 (fun _ => by apply T0_ofPerson5 <;> assumption)
theorem n_ofParcel0 (hL : DL d) (h8 : d.1 1 ≤ 8) {p : Nat} (hp : (p : Int) < d.1 1) : ev X m_X0_ofParcel 0 [vR 1, vI (p : Int), vI 0] [] (cpt mem d t mi la g) = some (some (vI ((d.2 6).getD p 0)), cpt mem d t mi la g) := C1 (fun _ => by apply T0_ofParcel0 <;> assumption)
theorem m_ofParcel0 (hL : DL d) (h8 : d.1 1 ≤ 8) {p : Nat} (hp : (p : Int) < d.1 1) : ev X m_X0_ofParcel 0 [vR 24, vI (p : Int), vI 0] [] (cpt mem n t d la g) = some (some (vI ((d.2 6).getD p 0)), cpt mem n t d la g) := C24 (fun _ => by apply T0_ofParcel0 <;> assumption)
theorem l_ofParcel0 (hL : DL d) (h8 : d.1 1 ≤ 8) {p : Nat} (hp : (p : Int) < d.1 1) : ev X m_X0_ofParcel 0 [vR 35, vI (p : Int), vI 0] [] (cpt mem n t mi d g) = some (some (vI ((d.2 6).getD p 0)), cpt mem n t mi d g) := C35 (fun _ => by apply T0_ofParcel0 <;> assumption)
theorem n_ofParcel1 (hL : DL d) (h8 : d.1 1 ≤ 8) {p : Nat} (hp : (p : Int) < d.1 1) : ev X m_X0_ofParcel 0 [vR 1, vI (p : Int), vI 1] [] (cpt mem d t mi la g) = some (some (vI ((d.2 7).getD p 0)), cpt mem d t mi la g) := C1 (fun _ => by apply T0_ofParcel1 <;> assumption)
theorem m_ofParcel1 (hL : DL d) (h8 : d.1 1 ≤ 8) {p : Nat} (hp : (p : Int) < d.1 1) : ev X m_X0_ofParcel 0 [vR 24, vI (p : Int), vI 1] [] (cpt mem n t d la g) = some (some (vI ((d.2 7).getD p 0)), cpt mem n t d la g) := C24 (fun _ => by apply T0_ofParcel1 <;> assumption)
theorem l_ofParcel1 (hL : DL d) (h8 : d.1 1 ≤ 8) {p : Nat} (hp : (p : Int) < d.1 1) : ev X m_X0_ofParcel 0 [vR 35, vI (p : Int), vI 1] [] (cpt mem n t mi d g) = some (some (vI ((d.2 7).getD p 0)), cpt mem n t mi d g) := C35 (fun _ => by apply T0_ofParcel1 <;> assumption)
theorem n_ofParcel2 (hL : DL d) (h8 : d.1 1 ≤ 8) {p : Nat} (hp : (p : Int) < d.1 1) : ev X m_X0_ofParcel 0 [vR 1, vI (p : Int), vI 2] [] (cpt mem d t mi la g) = some (some (vI ((d.2 8).getD p 0)), cpt mem d t mi la g) := C1 (fun _ => by apply T0_ofParcel2 <;> assumption)
theorem m_ofParcel2 (hL : DL d) (h8 : d.1 1 ≤ 8) {p : Nat} (hp : (p : Int) < d.1 1) : ev X m_X0_ofParcel 0 [vR 24, vI (p : Int), vI 2] [] (cpt mem n t d la g) = some (some (vI ((d.2 8).getD p 0)), cpt mem n t d la g) := C24 (fun _ => by apply T0_ofParcel2 <;> assumption)
theorem l_ofParcel2 (hL : DL d) (h8 : d.1 1 ≤ 8) {p : Nat} (hp : (p : Int) < d.1 1) : ev X m_X0_ofParcel 0 [vR 35, vI (p : Int), vI 2] [] (cpt mem n t mi d g) = some (some (vI ((d.2 8).getD p 0)), cpt mem n t mi d g) := C35 (fun _ => by apply T0_ofParcel2 <;> assumption)
theorem n_ofParcel3 (hL : DL d) (h8 : d.1 1 ≤ 8) {p : Nat} (hp : (p : Int) < d.1 1) : ev X m_X0_ofParcel 0 [vR 1, vI (p : Int), vI 3] [] (cpt mem d t mi la g) = some (some (vI ((d.2 10).getD p 0)), cpt mem d t mi la g) := C1 (fun _ => by apply T0_ofParcel3 <;> assumption)
theorem m_ofParcel3 (hL : DL d) (h8 : d.1 1 ≤ 8) {p : Nat} (hp : (p : Int) < d.1 1) : ev X m_X0_ofParcel 0 [vR 24, vI (p : Int), vI 3] [] (cpt mem n t d la g) = some (some (vI ((d.2 10).getD p 0)), cpt mem n t d la g) := C24 (fun _ => by apply T0_ofParcel3 <;> assumption)
theorem l_ofParcel3 (hL : DL d) (h8 : d.1 1 ≤ 8) {p : Nat} (hp : (p : Int) < d.1 1) : ev X m_X0_ofParcel 0 [vR 35, vI (p : Int), vI 3] [] (cpt mem n t mi d g) = some (some (vI ((d.2 10).getD p 0)), cpt mem n t mi d g) := C35 (fun _ => by apply T0_ofParcel3 <;> assumption)
theorem n_ofParcel4 (hL : DL d) (h8 : d.1 1 ≤ 8) {p : Nat} (hp : (p : Int) < d.1 1) : ev X m_X0_ofParcel 0 [vR 1, vI (p : Int), vI 4] [] (cpt mem d t mi la g) = some (some (vI ((d.2 9).getD p 0)), cpt mem d t mi la g) := C1 (fun _ => by apply T0_ofParcel4 <;> assumption)
theorem m_ofParcel4 (hL : DL d) (h8 : d.1 1 ≤ 8) {p : Nat} (hp : (p : Int) < d.1 1) : ev X m_X0_ofParcel 0 [vR 24, vI (p : Int), vI 4] [] (cpt mem n t d la g) = some (some (vI ((d.2 9).getD p 0)), cpt mem n t d la g) := C24 (fun _ => by apply T0_ofParcel4 <;> assumption)
theorem l_ofParcel4 (hL : DL d) (h8 : d.1 1 ≤ 8) {p : Nat} (hp : (p : Int) < d.1 1) : ev X m_X0_ofParcel 0 [vR 35, vI (p : Int), vI 4] [] (cpt mem n t mi d g) = some (some (vI ((d.2 9).getD p 0)), cpt mem n t mi d g) := C35 (fun _ => by apply T0_ofParcel4 <;> assumption)
theorem n_mutualEnemies (h : DW d) : ev X m_X0_mutualEnemies 0 [vR 1, vS, vS, vS] [] (cpt mem d t mi la g) = some (some (vI ((mutu d : Nat) : Int)), cpt mem d t mi la g) := C1 (fun _ => by apply T0_mutualEnemies <;> assumption)
theorem m_mutualEnemies (h : DW d) : ev X m_X0_mutualEnemies 0 [vR 24, vS, vS, vS] [] (cpt mem n t d la g) = some (some (vI ((mutu d : Nat) : Int)), cpt mem n t d la g) := C24 (fun _ => by apply T0_mutualEnemies <;> assumption)
theorem l_mutualEnemies (h : DW d) : ev X m_X0_mutualEnemies 0 [vR 35, vS, vS, vS] [] (cpt mem n t mi d g) = some (some (vI ((mutu d : Nat) : Int)), cpt mem n t mi d g) := C35 (fun _ => by apply T0_mutualEnemies <;> assumption)
theorem b24_1 (h1 : DL mi) (h2 : DL n) : ev X m_X0_become 0 [vR 24, vR 1] [] (cpt mem n t mi la g) = some (none, cpt mem n t n la g) := by
  have h := T0_become (X := X) (mem := (cpt mem n t mi la g)) (B := 24) (B2 := 1) (d := mi) (d2 := n) cpA1 (by decide) h1 h2
  rwa [cp24, cp24] at h
theorem b35_24 (h1 : DL la) (h2 : DL mi) : ev X m_X0_become 0 [vR 35, vR 24] [] (cpt mem n t mi la g) = some (none, cpt mem n t mi mi g) := by
  have h := T0_become (X := X) (mem := (cpt mem n t mi la g)) (B := 35) (B2 := 24) (d := la) (d2 := mi) cpA24 (by decide) h1 h2
  rwa [cp35, cp35] at h
theorem b12_1 (h1 : DL t) (h2 : DL n) : ev X m_X0_become 0 [vR 12, vR 1] [] (cpt mem n t mi la g) = some (none, cpt mem n n mi la g) := by
  have h := T0_become (X := X) (mem := (cpt mem n t mi la g)) (B := 12) (B2 := 1) (d := t) (d2 := n) cpA1 (by decide) h1 h2
  rwa [cp12, cp12] at h
theorem b1_12 (h1 : DL n) (h2 : DL t) : ev X m_X0_become 0 [vR 1, vR 12] [] (cpt mem n t mi la g) = some (none, cpt mem t t mi la g) := by
  have h := T0_become (X := X) (mem := (cpt mem n t mi la g)) (B := 1) (B2 := 12) (d := n) (d2 := t) cpA12 (by decide) h1 h2
  rwa [cp1, cp1] at h
theorem b1_24 (h1 : DL n) (h2 : DL mi) : ev X m_X0_become 0 [vR 1, vR 24] [] (cpt mem n t mi la g) = some (none, cpt mem mi t mi la g) := by
  have h := T0_become (X := X) (mem := (cpt mem n t mi la g)) (B := 1) (B2 := 24) (d := n) (d2 := mi) cpA24 (by decide) h1 h2
  rwa [cp1, cp1] at h
theorem m_dtb (h : DW d) {c : Nat} (hc : (c : Int) < d.1 1) {k : Nat} (hm : k ≤ 99) {z : AV} : ∃ d', DW d' ∧ ev X m_X4_daysTillBrought 0 [vR 24, vI (c : Int), vI (k : Int), z] [] (cpt mem n t d la g) = some (some (vI ((tbL c (k + 1) 0 d : Nat) : Int)), cpt mem n t d' la g) := by
  obtain ⟨d', h1, h2⟩ := T4_dtb (X := X) (mem := (cpt mem n t d la g)) (B := 24) h hc hm (z := z)
  rw [cp24, cp24] at h2
  exact ⟨d', h1, h2⟩
theorem l_dtb (h : DW d) {c : Nat} (hc : (c : Int) < d.1 1) {k : Nat} (hm : k ≤ 99) {z : AV} : ∃ d', DW d' ∧ ev X m_X4_daysTillBrought 0 [vR 35, vI (c : Int), vI (k : Int), z] [] (cpt mem n t mi d g) = some (some (vI ((tbL c (k + 1) 0 d : Nat) : Int)), cpt mem n t mi d' g) := by
  obtain ⟨d', h1, h2⟩ := T4_dtb (X := X) (mem := (cpt mem n t mi d g)) (B := 35) h hc hm (z := z)
  rw [cp35, cp35] at h2
  exact ⟨d', h1, h2⟩
theorem T3_behind (h : DW n) (hm : DL mi) {k : Nat} (hk : k < 2147483647) : ev X m_X3_behind 0 [vR 23, vR 1, vI (k : Int)] [] (cpt mem n t mi la g) = some (some (vR 24), cpt mem n t (pdays k n) la g) := by
  simp only [eX3_behind_0, eX3_behind_1, eX3_behind_4, eX3_behind_5, eX3_behind_8, eX3_behind_9, eX3_behind_12, eX3_behind_13, eX3_behind_16, eX3_behind_17, eX3_behind_20, evb_some, evm_some, evc_some, evc_none, gd, if_true, if_false, eq_self, and_self, and_true, true_and, ne_eq, not_false_eq_true, or_true, true_or, cf0_0, cf0_1, cf0_2, cf0_3, cf0_4, cf0_5, cf0_6, cf23_0, cf23_1, cf23_2, cf23_3, cf48_0, cf48_1, cf50_0, cf50_1, cg0, cg23, cg48, cg50, cg1, cg12, cg24, cg35, b24_1 hm h.1, m_passDays h hk]
end CE
