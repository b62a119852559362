theorem e140 {g : ez_G} {h : ez_H} {a0 : Nat} : ez_ev g 140 [.ref a0] h = ez_rn g 140 0 [some (.ref a0)] [] h := by
  unfold ez_ev
  rw [show ez_ml 140 = 1 by decide +kernel]
  rfl
theorem e141 {g : ez_G} {h : ez_H} {a0 : Nat} {a1 : Int32} : ez_ev g 141 [.ref a0, .int a1] h = ez_rn g 141 0 [some (.ref a0), some (.int a1)] [] h := by
  unfold ez_ev
  rw [show ez_ml 141 = 2 by decide +kernel]
  rfl
theorem e142 {g : ez_G} {h : ez_H} {a0 : Nat} : ez_ev g 142 [.ref a0] h = ez_rn g 142 0 [some (.ref a0)] [] h := by
  unfold ez_ev
  rw [show ez_ml 142 = 1 by decide +kernel]
  rfl
theorem e143 {g : ez_G} {h : ez_H} {a0 : Nat} : ez_ev g 143 [.ref a0] h = ez_rn g 143 0 [some (.ref a0)] [] h := by
  unfold ez_ev
  rw [show ez_ml 143 = 1 by decide +kernel]
  rfl
theorem e144 {g : ez_G} {h : ez_H} {a0 : Int32} {a1 : Int32} : ez_ev g 144 [.int a0, .int a1] h = ez_rn g 144 0 [some (.int a0), some (.int a1)] [] h := by
  unfold ez_ev
  rw [show ez_ml 144 = 2 by decide +kernel]
  rfl
theorem e145 {g : ez_G} {h : ez_H} {a0 : Nat} {a1 : Int32} : ez_ev g 145 [.ref a0, .int a1] h = ez_rn g 145 0 [some (.ref a0), some (.int a1)] [] h := by
  unfold ez_ev
  rw [show ez_ml 145 = 2 by decide +kernel]
  rfl
theorem e146 {g : ez_G} {h : ez_H} {a0 : Nat} : ez_ev g 146 [.ref a0] h = ez_rn g 146 0 [some (.ref a0)] [] h := by
  unfold ez_ev
  rw [show ez_ml 146 = 1 by decide +kernel]
  rfl
theorem e147 {g : ez_G} {h : ez_H} {a0 : Nat} : ez_ev g 147 [.ref a0] h = ez_rn g 147 0 [some (.ref a0)] [] h := by
  unfold ez_ev
  rw [show ez_ml 147 = 1 by decide +kernel]
  rfl
theorem e148 {g : ez_G} {h : ez_H} {a0 : Nat} : ez_ev g 148 [.ref a0] h = ez_rn g 148 0 [some (.ref a0)] [] h := by
  unfold ez_ev
  rw [show ez_ml 148 = 1 by decide +kernel]
  rfl
theorem e149 {g : ez_G} {h : ez_H} {a0 : Nat} {a1 : Int32} : ez_ev g 149 [.ref a0, .int a1] h = ez_rn g 149 0 [some (.ref a0), some (.int a1), none, none] [] h := by
  unfold ez_ev
  rw [show ez_ml 149 = 4 by decide +kernel]
  rfl
theorem e150 {g : ez_G} {h : ez_H} {a0 : Nat} : ez_ev g 150 [.ref a0] h = ez_rn g 150 0 [some (.ref a0)] [] h := by
  unfold ez_ev
  rw [show ez_ml 150 = 1 by decide +kernel]
  rfl
theorem e151 {g : ez_G} {h : ez_H} {a0 : Nat} : ez_ev g 151 [.ref a0] h = ez_rn g 151 0 [some (.ref a0)] [] h := by
  unfold ez_ev
  rw [show ez_ml 151 = 1 by decide +kernel]
  rfl
theorem e152 {g : ez_G} {h : ez_H} {a0 : Nat} {a1 : Int32} : ez_ev g 152 [.ref a0, .int a1] h = ez_rn g 152 0 [some (.ref a0), some (.int a1)] [] h := by
  unfold ez_ev
  rw [show ez_ml 152 = 2 by decide +kernel]
  rfl
theorem e153 {g : ez_G} {h : ez_H} {a0 : Nat} {a1 : Int32} : ez_ev g 153 [.ref a0, .int a1] h = ez_rn g 153 0 [some (.ref a0), some (.int a1)] [] h := by
  unfold ez_ev
  rw [show ez_ml 153 = 2 by decide +kernel]
  rfl
theorem e154 {g : ez_G} {h : ez_H} {a0 : Nat} {a1 : Nat} {a2 : Nat} {a3 : Int32} : ez_ev g 154 [.ref a0, .ref a1, .ref a2, .int a3] h = ez_rn g 154 0 [some (.ref a0), some (.ref a1), some (.ref a2), some (.int a3)] [] h := by
  unfold ez_ev
  rw [show ez_ml 154 = 4 by decide +kernel]
  rfl
theorem e155 {g : ez_G} {h : ez_H} {a0 : Nat} {a1 : Nat} : ez_ev g 155 [.ref a0, .ref a1] h = ez_rn g 155 0 [some (.ref a0), some (.ref a1)] [] h := by
  unfold ez_ev
  rw [show ez_ml 155 = 2 by decide +kernel]
  rfl
theorem e156 {g : ez_G} {h : ez_H} {a0 : Int32} {a1 : Int32} : ez_ev g 156 [.int a0, .int a1] h = ez_rn g 156 0 [some (.int a0), some (.int a1)] [] h := by
  unfold ez_ev
  rw [show ez_ml 156 = 2 by decide +kernel]
  rfl
theorem e157 {g : ez_G} {h : ez_H} {a0 : Int32} {a1 : Int32} {a2 : Int32} : ez_ev g 157 [.int a0, .int a1, .int a2] h = ez_rn g 157 0 [some (.int a0), some (.int a1), some (.int a2), none] [] h := by
  unfold ez_ev
  rw [show ez_ml 157 = 4 by decide +kernel]
  rfl
theorem e158 {g : ez_G} {h : ez_H} {a0 : Int32} {a1 : Int32} {a2 : Nat} : ez_ev g 158 [.int a0, .int a1, .ref a2] h = ez_rn g 158 0 [some (.int a0), some (.int a1), some (.ref a2)] [] h := by
  unfold ez_ev
  rw [show ez_ml 158 = 3 by decide +kernel]
  rfl
theorem e0 {g : ez_G} {h : ez_H} {a0 : Nat} : ez_ev g 0 [.ref a0] h = ez_rn g 0 0 [some (.ref a0)] [] h := by
  unfold ez_ev
  rw [show ez_ml 0 = 1 by decide +kernel]
  rfl
theorem e1 {g : ez_G} {h : ez_H} {a0 : Nat} {a1 : Int32} {a2 : Int32} : ez_ev g 1 [.ref a0, .int a1, .int a2] h = ez_rn g 1 0 [some (.ref a0), some (.int a1), some (.int a2), none] [] h := by
  unfold ez_ev
  rw [show ez_ml 1 = 4 by decide +kernel]
  rfl
theorem e2 {g : ez_G} {h : ez_H} {a0 : Nat} {a1 : Int32} {a2 : Int32} {a3 : Int32} : ez_ev g 2 [.ref a0, .int a1, .int a2, .int a3] h = ez_rn g 2 0 [some (.ref a0), some (.int a1), some (.int a2), some (.int a3)] [] h := by
  unfold ez_ev
  rw [show ez_ml 2 = 4 by decide +kernel]
  rfl
theorem e3 {g : ez_G} {h : ez_H} {a0 : Nat} {a1 : Int32} {a2 : Int32} : ez_ev g 3 [.ref a0, .int a1, .int a2] h = ez_rn g 3 0 [some (.ref a0), some (.int a1), some (.int a2)] [] h := by
  unfold ez_ev
  rw [show ez_ml 3 = 3 by decide +kernel]
  rfl
theorem e4 {g : ez_G} {h : ez_H} {a0 : Nat} {a1 : Int32} : ez_ev g 4 [.ref a0, .int a1] h = ez_rn g 4 0 [some (.ref a0), some (.int a1)] [] h := by
  unfold ez_ev
  rw [show ez_ml 4 = 2 by decide +kernel]
  rfl
theorem e5 {g : ez_G} {h : ez_H} {a0 : Nat} : ez_ev g 5 [.ref a0] h = ez_rn g 5 0 [some (.ref a0), none, none] [] h := by
  unfold ez_ev
  rw [show ez_ml 5 = 3 by decide +kernel]
  rfl
theorem e6 {g : ez_G} {h : ez_H} {a0 : Nat} {a1 : Int32} : ez_ev g 6 [.ref a0, .int a1] h = ez_rn g 6 0 [some (.ref a0), some (.int a1), none, none, none, none, none, none, none, none] [] h := by
  unfold ez_ev
  rw [show ez_ml 6 = 10 by decide +kernel]
  rfl
theorem e7 {g : ez_G} {h : ez_H} {a0 : Nat} : ez_ev g 7 [.ref a0] h = ez_rn g 7 0 [some (.ref a0), none, none, none] [] h := by
  unfold ez_ev
  rw [show ez_ml 7 = 4 by decide +kernel]
  rfl
theorem e8 {g : ez_G} {h : ez_H} {a0 : Nat} {a1 : Int32} {a2 : Nat} : ez_ev g 8 [.ref a0, .int a1, .ref a2] h = ez_rn g 8 0 [some (.ref a0), some (.int a1), some (.ref a2), none, none] [] h := by
  unfold ez_ev
  rw [show ez_ml 8 = 5 by decide +kernel]
  rfl
theorem e9 {g : ez_G} {h : ez_H} {a0 : Nat} : ez_ev g 9 [.ref a0] h = ez_rn g 9 0 [some (.ref a0), none, none] [] h := by
  unfold ez_ev
  rw [show ez_ml 9 = 3 by decide +kernel]
  rfl
theorem e10 {g : ez_G} {h : ez_H} {a0 : Nat} {a1 : Int32} {a2 : Int32} {a3 : Int32} : ez_ev g 10 [.ref a0, .int a1, .int a2, .int a3] h = ez_rn g 10 0 [some (.ref a0), some (.int a1), some (.int a2), some (.int a3)] [] h := by
  unfold ez_ev
  rw [show ez_ml 10 = 4 by decide +kernel]
  rfl
theorem e11 {g : ez_G} {h : ez_H} {a0 : Nat} {a1 : Int32} {a2 : Int32} : ez_ev g 11 [.ref a0, .int a1, .int a2] h = ez_rn g 11 0 [some (.ref a0), some (.int a1), some (.int a2)] [] h := by
  unfold ez_ev
  rw [show ez_ml 11 = 3 by decide +kernel]
  rfl
theorem e12 {g : ez_G} {h : ez_H} {a0 : Nat} {a1 : Nat} {a2 : Int32} : ez_ev g 12 [.ref a0, .ref a1, .int a2] h = ez_rn g 12 0 [some (.ref a0), some (.ref a1), some (.int a2)] [] h := by
  unfold ez_ev
  rw [show ez_ml 12 = 3 by decide +kernel]
  rfl
theorem e13 {g : ez_G} {h : ez_H} {a0 : Nat} {a1 : Int32} {a2 : Int32} {a3 : Int32} {a4 : Int32} {a5 : Int32} : ez_ev g 13 [.ref a0, .int a1, .int a2, .int a3, .int a4, .int a5] h = ez_rn g 13 0 [some (.ref a0), some (.int a1), some (.int a2), some (.int a3), some (.int a4), some (.int a5)] [] h := by
  unfold ez_ev
  rw [show ez_ml 13 = 6 by decide +kernel]
  rfl
theorem e14 {g : ez_G} {h : ez_H} {a0 : Nat} : ez_ev g 14 [.ref a0] h = ez_rn g 14 0 [some (.ref a0)] [] h := by
  unfold ez_ev
  rw [show ez_ml 14 = 1 by decide +kernel]
  rfl
theorem e15 {g : ez_G} {h : ez_H} {a0 : Nat} {a1 : Int32} : ez_ev g 15 [.ref a0, .int a1] h = ez_rn g 15 0 [some (.ref a0), some (.int a1)] [] h := by
  unfold ez_ev
  rw [show ez_ml 15 = 2 by decide +kernel]
  rfl
theorem e16 {g : ez_G} {h : ez_H} {a0 : Nat} {a1 : Int32} : ez_ev g 16 [.ref a0, .int a1] h = ez_rn g 16 0 [some (.ref a0), some (.int a1)] [] h := by
  unfold ez_ev
  rw [show ez_ml 16 = 2 by decide +kernel]
  rfl
theorem e17 {g : ez_G} {h : ez_H} {a0 : Nat} {a1 : Int32} {a2 : Int32} : ez_ev g 17 [.ref a0, .int a1, .int a2] h = ez_rn g 17 0 [some (.ref a0), some (.int a1), some (.int a2)] [] h := by
  unfold ez_ev
  rw [show ez_ml 17 = 3 by decide +kernel]
  rfl
theorem e18 {g : ez_G} {h : ez_H} {a0 : Nat} {a1 : Nat} {a2 : Int32} : ez_ev g 18 [.ref a0, .ref a1, .int a2] h = ez_rn g 18 0 [some (.ref a0), some (.ref a1), some (.int a2)] [] h := by
  unfold ez_ev
  rw [show ez_ml 18 = 3 by decide +kernel]
  rfl
theorem e19 {g : ez_G} {h : ez_H} {a0 : Nat} {a1 : Nat} : ez_ev g 19 [.ref a0, .ref a1] h = ez_rn g 19 0 [some (.ref a0), some (.ref a1), none, none] [] h := by
  unfold ez_ev
  rw [show ez_ml 19 = 4 by decide +kernel]
  rfl
theorem e20 {g : ez_G} {h : ez_H} {a0 : Nat} {a1 : Nat} : ez_ev g 20 [.ref a0, .ref a1] h = ez_rn g 20 0 [some (.ref a0), some (.ref a1), none] [] h := by
  unfold ez_ev
  rw [show ez_ml 20 = 3 by decide +kernel]
  rfl
theorem e21 {g : ez_G} {h : ez_H} {a0 : Nat} {a1 : Nat} : ez_ev g 21 [.ref a0, .ref a1] h = ez_rn g 21 0 [some (.ref a0), some (.ref a1), none] [] h := by
  unfold ez_ev
  rw [show ez_ml 21 = 3 by decide +kernel]
  rfl
theorem e22 {g : ez_G} {h : ez_H} {a0 : Nat} {a1 : Nat} : ez_ev g 22 [.ref a0, .ref a1] h = ez_rn g 22 0 [some (.ref a0), some (.ref a1)] [] h := by
  unfold ez_ev
  rw [show ez_ml 22 = 2 by decide +kernel]
  rfl
theorem e23 {g : ez_G} {h : ez_H} {a0 : Nat} {a1 : Nat} : ez_ev g 23 [.ref a0, .ref a1] h = ez_rn g 23 0 [some (.ref a0), some (.ref a1)] [] h := by
  unfold ez_ev
  rw [show ez_ml 23 = 2 by decide +kernel]
  rfl
theorem e24 {g : ez_G} {h : ez_H} {a0 : Nat} {a1 : Nat} : ez_ev g 24 [.ref a0, .ref a1] h = ez_rn g 24 0 [some (.ref a0), some (.ref a1), none, none, none] [] h := by
  unfold ez_ev
  rw [show ez_ml 24 = 5 by decide +kernel]
  rfl
theorem e25 {g : ez_G} {h : ez_H} {a0 : Nat} {a1 : Nat} : ez_ev g 25 [.ref a0, .ref a1] h = ez_rn g 25 0 [some (.ref a0), some (.ref a1), none] [] h := by
  unfold ez_ev
  rw [show ez_ml 25 = 3 by decide +kernel]
  rfl
theorem e26 {g : ez_G} {h : ez_H} {a0 : Nat} : ez_ev g 26 [.ref a0] h = ez_rn g 26 0 [some (.ref a0), none, none] [] h := by
  unfold ez_ev
  rw [show ez_ml 26 = 3 by decide +kernel]
  rfl
theorem e27 {g : ez_G} {h : ez_H} {a0 : Nat} : ez_ev g 27 [.ref a0] h = ez_rn g 27 0 [some (.ref a0), none] [] h := by
  unfold ez_ev
  rw [show ez_ml 27 = 2 by decide +kernel]
  rfl
theorem e28 {g : ez_G} {h : ez_H} {a0 : Nat} {a1 : Int32} : ez_ev g 28 [.ref a0, .int a1] h = ez_rn g 28 0 [some (.ref a0), some (.int a1)] [] h := by
  unfold ez_ev
  rw [show ez_ml 28 = 2 by decide +kernel]
  rfl
theorem e29 {g : ez_G} {h : ez_H} {a0 : Int32} : ez_ev g 29 [.int a0] h = ez_rn g 29 0 [some (.int a0)] [] h := by
  unfold ez_ev
  rw [show ez_ml 29 = 1 by decide +kernel]
  rfl
theorem e30 {g : ez_G} {h : ez_H} {a0 : Int32} : ez_ev g 30 [.int a0] h = ez_rn g 30 0 [some (.int a0)] [] h := by
  unfold ez_ev
  rw [show ez_ml 30 = 1 by decide +kernel]
  rfl
theorem e31 {g : ez_G} {h : ez_H} {a0 : Int32} : ez_ev g 31 [.int a0] h = ez_rn g 31 0 [some (.int a0)] [] h := by
  unfold ez_ev
  rw [show ez_ml 31 = 1 by decide +kernel]
  rfl
theorem e32 {g : ez_G} {h : ez_H} {a0 : Nat} {a1 : Nat} {a2 : Int32} : ez_ev g 32 [.ref a0, .ref a1, .int a2] h = ez_rn g 32 0 [some (.ref a0), some (.ref a1), some (.int a2)] [] h := by
  unfold ez_ev
  rw [show ez_ml 32 = 3 by decide +kernel]
  rfl
theorem e33 {g : ez_G} {h : ez_H} {a0 : Nat} {a1 : Nat} {a2 : Int32} : ez_ev g 33 [.ref a0, .ref a1, .int a2] h = ez_rn g 33 0 [some (.ref a0), some (.ref a1), some (.int a2)] [] h := by
  unfold ez_ev
  rw [show ez_ml 33 = 3 by decide +kernel]
  rfl
theorem e34 {g : ez_G} {h : ez_H} {a0 : Nat} {a1 : Int32} : ez_ev g 34 [.ref a0, .int a1] h = ez_rn g 34 0 [some (.ref a0), some (.int a1), none, none, none, none] [] h := by
  unfold ez_ev
  rw [show ez_ml 34 = 6 by decide +kernel]
  rfl
theorem e35 {g : ez_G} {h : ez_H} {a0 : Nat} {a1 : Nat} : ez_ev g 35 [.ref a0, .ref a1] h = ez_rn g 35 0 [some (.ref a0), some (.ref a1), none, none, none] [] h := by
  unfold ez_ev
  rw [show ez_ml 35 = 5 by decide +kernel]
  rfl
theorem e36 {g : ez_G} {h : ez_H} {a0 : Nat} {a1 : Int32} : ez_ev g 36 [.ref a0, .int a1] h = ez_rn g 36 0 [some (.ref a0), some (.int a1)] [] h := by
  unfold ez_ev
  rw [show ez_ml 36 = 2 by decide +kernel]
  rfl
theorem e37 {g : ez_G} {h : ez_H} {a0 : Nat} {a1 : Int32} : ez_ev g 37 [.ref a0, .int a1] h = ez_rn g 37 0 [some (.ref a0), some (.int a1)] [] h := by
  unfold ez_ev
  rw [show ez_ml 37 = 2 by decide +kernel]
  rfl
theorem e38 {g : ez_G} {h : ez_H} {a0 : Nat} {a1 : Int32} {a2 : Int32} {a3 : Int32} : ez_ev g 38 [.ref a0, .int a1, .int a2, .int a3] h = ez_rn g 38 0 [some (.ref a0), some (.int a1), some (.int a2), some (.int a3), none, none] [] h := by
  unfold ez_ev
  rw [show ez_ml 38 = 6 by decide +kernel]
  rfl
theorem e39 {g : ez_G} {h : ez_H} {a0 : Nat} {a1 : Int32} {a2 : Int32} {a3 : Int32} : ez_ev g 39 [.ref a0, .int a1, .int a2, .int a3] h = ez_rn g 39 0 [some (.ref a0), some (.int a1), some (.int a2), some (.int a3), none] [] h := by
  unfold ez_ev
  rw [show ez_ml 39 = 5 by decide +kernel]
  rfl
theorem e40 {g : ez_G} {h : ez_H} {a0 : Nat} : ez_ev g 40 [.ref a0] h = ez_rn g 40 0 [some (.ref a0)] [] h := by
  unfold ez_ev
  rw [show ez_ml 40 = 1 by decide +kernel]
  rfl
theorem e41 {g : ez_G} {h : ez_H} {a0 : Nat} {a1 : Int32} : ez_ev g 41 [.ref a0, .int a1] h = ez_rn g 41 0 [some (.ref a0), some (.int a1)] [] h := by
  unfold ez_ev
  rw [show ez_ml 41 = 2 by decide +kernel]
  rfl
theorem e42 {g : ez_G} {h : ez_H} {a0 : Nat} {a1 : Int32} : ez_ev g 42 [.ref a0, .int a1] h = ez_rn g 42 0 [some (.ref a0), some (.int a1)] [] h := by
  unfold ez_ev
  rw [show ez_ml 42 = 2 by decide +kernel]
  rfl
theorem e43 {g : ez_G} {h : ez_H} {a0 : Nat} {a1 : Int32} {a2 : Int32} {a3 : Int32} : ez_ev g 43 [.ref a0, .int a1, .int a2, .int a3] h = ez_rn g 43 0 [some (.ref a0), some (.int a1), some (.int a2), some (.int a3)] [] h := by
  unfold ez_ev
  rw [show ez_ml 43 = 4 by decide +kernel]
  rfl
theorem e44 {g : ez_G} {h : ez_H} {a0 : Nat} {a1 : Int32} {a2 : Int32} {a3 : Int32} {a4 : Int32} {a5 : Int32} : ez_ev g 44 [.ref a0, .int a1, .int a2, .int a3, .int a4, .int a5] h = ez_rn g 44 0 [some (.ref a0), some (.int a1), some (.int a2), some (.int a3), some (.int a4), some (.int a5)] [] h := by
  unfold ez_ev
  rw [show ez_ml 44 = 6 by decide +kernel]
  rfl
theorem e45 {g : ez_G} {h : ez_H} {a0 : Nat} {a1 : Int32} : ez_ev g 45 [.ref a0, .int a1] h = ez_rn g 45 0 [some (.ref a0), some (.int a1), none, none, none] [] h := by
  unfold ez_ev
  rw [show ez_ml 45 = 5 by decide +kernel]
  rfl
theorem e46 {g : ez_G} {h : ez_H} {a0 : Nat} : ez_ev g 46 [.ref a0] h = ez_rn g 46 0 [some (.ref a0)] [] h := by
  unfold ez_ev
  rw [show ez_ml 46 = 1 by decide +kernel]
  rfl
theorem e47 {g : ez_G} {h : ez_H} {a0 : Nat} {a1 : Int32} : ez_ev g 47 [.ref a0, .int a1] h = ez_rn g 47 0 [some (.ref a0), some (.int a1), none] [] h := by
  unfold ez_ev
  rw [show ez_ml 47 = 3 by decide +kernel]
  rfl
theorem e48 {g : ez_G} {h : ez_H} {a0 : Nat} {a1 : Int32} : ez_ev g 48 [.ref a0, .int a1] h = ez_rn g 48 0 [some (.ref a0), some (.int a1)] [] h := by
  unfold ez_ev
  rw [show ez_ml 48 = 2 by decide +kernel]
  rfl
theorem e49 {g : ez_G} {h : ez_H} {a0 : Nat} {a1 : Int32} {a2 : Int32} {a3 : Int32} : ez_ev g 49 [.ref a0, .int a1, .int a2, .int a3] h = ez_rn g 49 0 [some (.ref a0), some (.int a1), some (.int a2), some (.int a3)] [] h := by
  unfold ez_ev
  rw [show ez_ml 49 = 4 by decide +kernel]
  rfl
theorem e50 {g : ez_G} {h : ez_H} {a0 : Nat} {a1 : Int32} : ez_ev g 50 [.ref a0, .int a1] h = ez_rn g 50 0 [some (.ref a0), some (.int a1)] [] h := by
  unfold ez_ev
  rw [show ez_ml 50 = 2 by decide +kernel]
  rfl
theorem e51 {g : ez_G} {h : ez_H} {a0 : Nat} {a1 : Int32} {a2 : Int32} {a3 : Int32} {a4 : Int32} : ez_ev g 51 [.ref a0, .int a1, .int a2, .int a3, .int a4] h = ez_rn g 51 0 [some (.ref a0), some (.int a1), some (.int a2), some (.int a3), some (.int a4), none, none, none] [] h := by
  unfold ez_ev
  rw [show ez_ml 51 = 8 by decide +kernel]
  rfl
theorem e52 {g : ez_G} {h : ez_H} {a0 : Nat} {a1 : Int32} : ez_ev g 52 [.ref a0, .int a1] h = ez_rn g 52 0 [some (.ref a0), some (.int a1), none, none] [] h := by
  unfold ez_ev
  rw [show ez_ml 52 = 4 by decide +kernel]
  rfl
theorem e53 {g : ez_G} {h : ez_H} {a0 : Nat} {a1 : Int32} {a2 : Int32} : ez_ev g 53 [.ref a0, .int a1, .int a2] h = ez_rn g 53 0 [some (.ref a0), some (.int a1), some (.int a2), none] [] h := by
  unfold ez_ev
  rw [show ez_ml 53 = 4 by decide +kernel]
  rfl
theorem e54 {g : ez_G} {h : ez_H} {a0 : Nat} {a1 : Int32} {a2 : Int32} {a3 : Int32} : ez_ev g 54 [.ref a0, .int a1, .int a2, .int a3] h = ez_rn g 54 0 [some (.ref a0), some (.int a1), some (.int a2), some (.int a3)] [] h := by
  unfold ez_ev
  rw [show ez_ml 54 = 4 by decide +kernel]
  rfl
theorem e55 {g : ez_G} {h : ez_H} {a0 : Nat} {a1 : Int32} {a2 : Int32} {a3 : Int32} : ez_ev g 55 [.ref a0, .int a1, .int a2, .int a3] h = ez_rn g 55 0 [some (.ref a0), some (.int a1), some (.int a2), some (.int a3), none, none] [] h := by
  unfold ez_ev
  rw [show ez_ml 55 = 6 by decide +kernel]
  rfl
theorem e56 {g : ez_G} {h : ez_H} {a0 : Nat} {a1 : Int32} {a2 : Int32} : ez_ev g 56 [.ref a0, .int a1, .int a2] h = ez_rn g 56 0 [some (.ref a0), some (.int a1), some (.int a2), none] [] h := by
  unfold ez_ev
  rw [show ez_ml 56 = 4 by decide +kernel]
  rfl
theorem e57 {g : ez_G} {h : ez_H} {a0 : Nat} {a1 : Int32} : ez_ev g 57 [.ref a0, .int a1] h = ez_rn g 57 0 [some (.ref a0), some (.int a1), none] [] h := by
  unfold ez_ev
  rw [show ez_ml 57 = 3 by decide +kernel]
  rfl
theorem e58 {g : ez_G} {h : ez_H} {a0 : Nat} : ez_ev g 58 [.ref a0] h = ez_rn g 58 0 [some (.ref a0)] [] h := by
  unfold ez_ev
  rw [show ez_ml 58 = 1 by decide +kernel]
  rfl
theorem e59 {g : ez_G} {h : ez_H} {a0 : Nat} {a1 : Int32} {a2 : Int32} : ez_ev g 59 [.ref a0, .int a1, .int a2] h = ez_rn g 59 0 [some (.ref a0), some (.int a1), some (.int a2), none, none] [] h := by
  unfold ez_ev
  rw [show ez_ml 59 = 5 by decide +kernel]
  rfl
theorem e60 {g : ez_G} {h : ez_H} {a0 : Nat} {a1 : Int32} {a2 : Int32} {a3 : Int32} {a4 : Int32} : ez_ev g 60 [.ref a0, .int a1, .int a2, .int a3, .int a4] h = ez_rn g 60 0 [some (.ref a0), some (.int a1), some (.int a2), some (.int a3), some (.int a4), none, none] [] h := by
  unfold ez_ev
  rw [show ez_ml 60 = 7 by decide +kernel]
  rfl
theorem e61 {g : ez_G} {h : ez_H} {a0 : Nat} {a1 : Int32} : ez_ev g 61 [.ref a0, .int a1] h = ez_rn g 61 0 [some (.ref a0), some (.int a1), none] [] h := by
  unfold ez_ev
  rw [show ez_ml 61 = 3 by decide +kernel]
  rfl
theorem e62 {g : ez_G} {h : ez_H} {a0 : Nat} {a1 : Int32} : ez_ev g 62 [.ref a0, .int a1] h = ez_rn g 62 0 [some (.ref a0), some (.int a1), none, none] [] h := by
  unfold ez_ev
  rw [show ez_ml 62 = 4 by decide +kernel]
  rfl
theorem e63 {g : ez_G} {h : ez_H} {a0 : Nat} {a1 : Int32} {a2 : Int32} : ez_ev g 63 [.ref a0, .int a1, .int a2] h = ez_rn g 63 0 [some (.ref a0), some (.int a1), some (.int a2), none] [] h := by
  unfold ez_ev
  rw [show ez_ml 63 = 4 by decide +kernel]
  rfl
theorem e64 {g : ez_G} {h : ez_H} {a0 : Nat} {a1 : Int32} {a2 : Int32} : ez_ev g 64 [.ref a0, .int a1, .int a2] h = ez_rn g 64 0 [some (.ref a0), some (.int a1), some (.int a2), none] [] h := by
  unfold ez_ev
  rw [show ez_ml 64 = 4 by decide +kernel]
  rfl
theorem e65 {g : ez_G} {h : ez_H} {a0 : Nat} {a1 : Int32} {a2 : Int32} : ez_ev g 65 [.ref a0, .int a1, .int a2] h = ez_rn g 65 0 [some (.ref a0), some (.int a1), some (.int a2), none] [] h := by
  unfold ez_ev
  rw [show ez_ml 65 = 4 by decide +kernel]
  rfl
theorem e66 {g : ez_G} {h : ez_H} {a0 : Nat} {a1 : Int32} {a2 : Int32} {a3 : Int32} : ez_ev g 66 [.ref a0, .int a1, .int a2, .int a3] h = ez_rn g 66 0 [some (.ref a0), some (.int a1), some (.int a2), some (.int a3), none] [] h := by
  unfold ez_ev
  rw [show ez_ml 66 = 5 by decide +kernel]
  rfl
theorem e67 {g : ez_G} {h : ez_H} {a0 : Nat} {a1 : Int32} : ez_ev g 67 [.ref a0, .int a1] h = ez_rn g 67 0 [some (.ref a0), some (.int a1)] [] h := by
  unfold ez_ev
  rw [show ez_ml 67 = 2 by decide +kernel]
  rfl
theorem e68 {g : ez_G} {h : ez_H} {a0 : Int32} {a1 : Int32} {a2 : Int32} : ez_ev g 68 [.int a0, .int a1, .int a2] h = ez_rn g 68 0 [some (.int a0), some (.int a1), some (.int a2)] [] h := by
  unfold ez_ev
  rw [show ez_ml 68 = 3 by decide +kernel]
  rfl
theorem e69 {g : ez_G} {h : ez_H} {a0 : Int32} : ez_ev g 69 [.int a0] h = ez_rn g 69 0 [some (.int a0)] [] h := by
  unfold ez_ev
  rw [show ez_ml 69 = 1 by decide +kernel]
  rfl
theorem e70 {g : ez_G} {h : ez_H} {a0 : Int32} : ez_ev g 70 [.int a0] h = ez_rn g 70 0 [some (.int a0)] [] h := by
  unfold ez_ev
  rw [show ez_ml 70 = 1 by decide +kernel]
  rfl
theorem e71 {g : ez_G} {h : ez_H} {a0 : Nat} {a1 : Int32} : ez_ev g 71 [.ref a0, .int a1] h = ez_rn g 71 0 [some (.ref a0), some (.int a1)] [] h := by
  unfold ez_ev
  rw [show ez_ml 71 = 2 by decide +kernel]
  rfl
theorem e72 {g : ez_G} {h : ez_H} {a0 : Nat} {a1 : Int32} : ez_ev g 72 [.ref a0, .int a1] h = ez_rn g 72 0 [some (.ref a0), some (.int a1)] [] h := by
  unfold ez_ev
  rw [show ez_ml 72 = 2 by decide +kernel]
  rfl
theorem e73 {g : ez_G} {h : ez_H} {a0 : Nat} {a1 : Int32} : ez_ev g 73 [.ref a0, .int a1] h = ez_rn g 73 0 [some (.ref a0), some (.int a1)] [] h := by
  unfold ez_ev
  rw [show ez_ml 73 = 2 by decide +kernel]
  rfl
theorem e74 {g : ez_G} {h : ez_H} {a0 : Nat} {a1 : Int32} : ez_ev g 74 [.ref a0, .int a1] h = ez_rn g 74 0 [some (.ref a0), some (.int a1)] [] h := by
  unfold ez_ev
  rw [show ez_ml 74 = 2 by decide +kernel]
  rfl
theorem e75 {g : ez_G} {h : ez_H} {a0 : Nat} {a1 : Int32} : ez_ev g 75 [.ref a0, .int a1] h = ez_rn g 75 0 [some (.ref a0), some (.int a1), none] [] h := by
  unfold ez_ev
  rw [show ez_ml 75 = 3 by decide +kernel]
  rfl
theorem e76 {g : ez_G} {h : ez_H} {a0 : Nat} {a1 : Int32} : ez_ev g 76 [.ref a0, .int a1] h = ez_rn g 76 0 [some (.ref a0), some (.int a1), none, none] [] h := by
  unfold ez_ev
  rw [show ez_ml 76 = 4 by decide +kernel]
  rfl
theorem e77 {g : ez_G} {h : ez_H} {a0 : Nat} {a1 : Int32} : ez_ev g 77 [.ref a0, .int a1] h = ez_rn g 77 0 [some (.ref a0), some (.int a1), none] [] h := by
  unfold ez_ev
  rw [show ez_ml 77 = 3 by decide +kernel]
  rfl
theorem e78 {g : ez_G} {h : ez_H} {a0 : Nat} {a1 : Nat} {a2 : Nat} : ez_ev g 78 [.ref a0, .ref a1, .ref a2] h = ez_rn g 78 0 [some (.ref a0), some (.ref a1), some (.ref a2)] [] h := by
  unfold ez_ev
  rw [show ez_ml 78 = 3 by decide +kernel]
  rfl
theorem e79 {g : ez_G} {h : ez_H} {a0 : Nat} {a1 : Int32} {a2 : Int32} : ez_ev g 79 [.ref a0, .int a1, .int a2] h = ez_rn g 79 0 [some (.ref a0), some (.int a1), some (.int a2), none, none, none] [] h := by
  unfold ez_ev
  rw [show ez_ml 79 = 6 by decide +kernel]
  rfl
theorem e80 {g : ez_G} {h : ez_H} {a0 : Nat} {a1 : Int32} {a2 : Int32} {a3 : Int32} : ez_ev g 80 [.ref a0, .int a1, .int a2, .int a3] h = ez_rn g 80 0 [some (.ref a0), some (.int a1), some (.int a2), some (.int a3), none, none, none, none] [] h := by
  unfold ez_ev
  rw [show ez_ml 80 = 8 by decide +kernel]
  rfl
theorem e81 {g : ez_G} {h : ez_H} {a0 : Int32} : ez_ev g 81 [.int a0] h = ez_rn g 81 0 [some (.int a0)] [] h := by
  unfold ez_ev
  rw [show ez_ml 81 = 1 by decide +kernel]
  rfl
theorem e82 {g : ez_G} {h : ez_H} {a0 : Int32} : ez_ev g 82 [.int a0] h = ez_rn g 82 0 [some (.int a0)] [] h := by
  unfold ez_ev
  rw [show ez_ml 82 = 1 by decide +kernel]
  rfl
theorem e83 {g : ez_G} {h : ez_H} {a0 : Nat} {a1 : Int32} {a2 : Int32} : ez_ev g 83 [.ref a0, .int a1, .int a2] h = ez_rn g 83 0 [some (.ref a0), some (.int a1), some (.int a2), none, none, none, none, none] [] h := by
  unfold ez_ev
  rw [show ez_ml 83 = 8 by decide +kernel]
  rfl
theorem e84 {g : ez_G} {h : ez_H} {a0 : Nat} {a1 : Int32} {a2 : Int32} : ez_ev g 84 [.ref a0, .int a1, .int a2] h = ez_rn g 84 0 [some (.ref a0), some (.int a1), some (.int a2), none] [] h := by
  unfold ez_ev
  rw [show ez_ml 84 = 4 by decide +kernel]
  rfl
theorem e85 {g : ez_G} {h : ez_H} {a0 : Nat} {a1 : Int32} {a2 : Int32} {a3 : Int32} : ez_ev g 85 [.ref a0, .int a1, .int a2, .int a3] h = ez_rn g 85 0 [some (.ref a0), some (.int a1), some (.int a2), some (.int a3), none, none, none] [] h := by
  unfold ez_ev
  rw [show ez_ml 85 = 7 by decide +kernel]
  rfl
theorem e86 {g : ez_G} {h : ez_H} {a0 : Nat} : ez_ev g 86 [.ref a0] h = ez_rn g 86 0 [some (.ref a0), none, none] [] h := by
  unfold ez_ev
  rw [show ez_ml 86 = 3 by decide +kernel]
  rfl
theorem e87 {g : ez_G} {h : ez_H} {a0 : Nat} : ez_ev g 87 [.ref a0] h = ez_rn g 87 0 [some (.ref a0), none, none] [] h := by
  unfold ez_ev
  rw [show ez_ml 87 = 3 by decide +kernel]
  rfl
theorem e88 {g : ez_G} {h : ez_H} {a0 : Nat} : ez_ev g 88 [.ref a0] h = ez_rn g 88 0 [some (.ref a0), none, none] [] h := by
  unfold ez_ev
  rw [show ez_ml 88 = 3 by decide +kernel]
  rfl
section LS
variable {g : ez_G} {h h0 : ez_H} {P : xP} {c : xR → Nat → Int32}
theorem e158v {a b : Int32} {v : Value} (hv : v.category = 1) : ez_ev g 158 [.int a, .int b, v] h = ez_rn g 158 0 [some (.int a), some (.int b), some v] [] h := by
  unfold ez_ev
  rw [show ez_ml 158 = 3 by decide +kernel]
  have e : ez_sl0 [.int a, .int b, v] = [some (.int a), some (.int b), some v] := by
    unfold ez_sl0
    rw [if_neg (show ¬ (Value.int a).category = 2 from (by decide : ¬ (1 : Nat) = 2))]
    unfold ez_sl0
    rw [if_neg (show ¬ (Value.int b).category = 2 from (by decide : ¬ (1 : Nat) = 2))]
    unfold ez_sl0
    rw [if_neg (by rw [hv]; decide)]
    rfl
  unfold ez_l0
  rw [e]
  rfl
theorem q_ck {i n : Int32} {v : Value} (hv : v.category = 1) (h1 : ¬ i < 0) (h2 : i < n) : ez_ev g 158 [.int i, .int n, v] h = some (some (.int i), h) := by
  rw [e158v hv]
  simp only [s158_0, s158_1, s158_4, s158_5, s158_6, s158_16, s158_17, zl_n, zl_i, zl_r, zl_0, z10, z01, ez_bd_s, ez_bd_n, eq_self, true_or, or_true, if_true, if_false, zb_eq, zb_eq1, zb_em, zb_em2, ite_not, List.append_nil, List.cons_append, List.nil_append, reduceCtorEq, not_true_eq_false, not_false_eq_true, h1, h2]
theorem q_cki {i n : Int32} (h1 : ¬ i < 0) (h2 : i < n) : ez_ev g 156 [.int i, .int n] h = some (some (.int i), h) := by
  rw [e156]
  simp only [s156_0, s156_1, s156_2, s156_3, s156_6, zl_n, zl_i, zl_r, zl_0, z10, z01, ez_bd_s, ez_bd_n, eq_self, true_or, or_true, if_true, if_false, zb_eq, zb_eq1, zb_em, zb_em2, ite_not, List.append_nil, List.cons_append, List.nil_append, reduceCtorEq, not_true_eq_false, not_false_eq_true, q_ck (g := g) (h := h) (v := .null) rfl h1 h2]
/-- a list of n things -/
def xls (P : xP) (c : xR → Nat → Int32) (L i n : Nat) : Prop := lv P (3, L, i) ∧ c (3, L, i) 2 = nI n ∧ n ≤ P.2.2.2 (3, L, i) ∧ P.2.2.2 (3, L, i) ≤ 1000 ∧ (P.2.2.2 (3, L, i) ≠ 0 → lv P (4, L, i)) ∧ ∀ j, n ≤ j → c (4, L, i) j = -1
theorem q_size {L i : Nat} (hl : lv P (3, L, i)) : ez_ev g 151 [.ref (P.2.2.1 (3, L, i))] (xh h0 P c) = some (some (.int (c (3, L, i) 2)), xh h0 P c) := by
  rw [e151]
  simp only [s151_0, s151_1, s151_4, zl_n, zl_i, zl_r, zl_0, z10, z01, ez_bd_s, ez_bd_n, eq_self, true_or, or_true, if_true, if_false, zb_eq, zb_eq1, zb_em, zb_em2, ite_not, List.append_nil, List.cons_append, List.nil_append, reduceCtorEq, not_true_eq_false, not_false_eq_true, xo1, xa1, xf1_0, xv1_0, xp1_0, xf1_1, xv1_1, xf1_2, xv1_2, xp1_2, xf1_3, xv1_3, xf1_4, xv1_4, xf1_5, xv1_5, xp1_5, xf1_6, xv1_6, xp1_6, xf1_7, xv1_7, xf1_8, xv1_8, xf1_9, xv1_9, xf1_10, xv1_10, xf1_11, xv1_11, xf1_12, xv1_12, xf1_13, xv1_13, xf1_14, xv1_14, xp1_14, xo3, xa3, xf3_0, xv3_0, xp3_0, xf3_1, xv3_1, xf3_2, xv3_2, xp3_2, xo5, xa5, xf5_0, xv5_0, xp5_0, xf5_1, xv5_1, xp5_1, xf5_2, xv5_2, xp5_2, xf5_3, xv5_3, xp5_3, xf5_4, xv5_4, xp5_4, xf5_5, xv5_5, xp5_5, xf5_6, xv5_6, xp5_6, xf5_7, xv5_7, xp5_7, xf5_8, xv5_8, xp5_8, xf5_9, xv5_9, xp5_9, xf5_10, xv5_10, xp5_10, xf5_11, xv5_11, xp5_11, xf5_12, xv5_12, xp5_12, xo6, xa6, xf6_0, xv6_0, xp6_0, xf6_1, xv6_1, xp6_1, xf6_2, xv6_2, xp6_2, xo7, xa7, xf7_0, xv7_0, xp7_0, xf7_1, xv7_1, xp7_1, xf7_2, xv7_2, xp7_2, xf7_3, xv7_3, xp7_3, xf7_4, xv7_4, xf7_5, xv7_5, xo8, xa8, xf8_0, xv8_0, xp8_0, xf8_1, xv8_1, xo10, xa10, xf10_0, xv10_0, xp10_0, xf10_1, xv10_1, xp10_1, xf10_2, xv10_2, xp10_2, xf10_3, xv10_3, xf10_4, xv10_4, xo12, xa12, xf12_0, xv12_0, xf12_1, xv12_1, xp12_1, xf12_2, xv12_2, xp12_2, xf12_3, xv12_3, xp12_3, xf12_4, xv12_4, xo13, xa13, xf13_0, xv13_0, xf13_1, xv13_1, xp13_1, xo14, xa14, xf14_0, xv14_0, xf14_1, xv14_1, xp14_1, xf14_2, xv14_2, xp14_2, xf14_3, xv14_3, xp14_3, ya2_1, yw2_1, yv2_1, yp2_1, yn2_1, yl2_1, ya2_3, yw2_3, yv2_3, yp2_3, yn2_3, yl2_3, ya2_10, yw2_10, yv2_10, yp2_10, yn2_10, yl2_10, ya2_11, yw2_11, yv2_11, yp2_11, yn2_11, yl2_11, ya9, yw9, yv9, yp9, yn9, yl9, ya11, yw11, yv11, yp11, yn11, yl11, ya15, yw15, yv15, yp15, yn15, yl15, ya16, yw16, yv16, yp16, yn16, yl16, ok10, ok11, ok1i, xu_s, xu_n, ne_eq, Prod.mk.injEq, Nat.reduceEqDiff, false_and, and_false, not_false_eq_true, hl]
theorem xh4 {L i : Nat} (hl : lv P (4, L, i)) : (xh h0 P c).1 (P.2.2.1 (4, L, i)) = some (.inl (4, P.2.2.2 (3, L, i), .inr (.inr (.inr (.inr (xrf P L i (c (4, L, i)))))))) := xh_at hl (show 4 ≠ 0 by decide)
theorem q_get {L i n j v : Nat} (hs : xls P c L i n) (hj : j < n) (hv : v < 2 ^ 31) (he : c (4, L, i) j = nI v) : ez_ev g 153 [.ref (P.2.2.1 (3, L, i)), .int (nI j)] (xh h0 P c) = some (some (.ref (P.2.2.1 (xel L i v))), xh h0 P c) := by
  obtain ⟨hl, h2, h3, h4, h5, h6⟩ := hs
  have hc : P.2.2.2 (3, L, i) ≠ 0 := by omega
  have hl4 := h5 hc
  have c1 : (nI j).toNatClampNeg = j := nI_clamp (by omega)
  have q1 : ez_isQ ((xh h0 P c).1 (P.2.2.1 (4, L, i))) (nI j) = true := by
    rw [xh4 hl4]
    show (4 == 4 && (decide (¬ nI j < 0) && decide ((nI j).toNatClampNeg < P.2.2.2 (3, L, i)))) = true
    rw [c1, decide_eq_true (nI_pos (by omega)), decide_eq_true (show j < P.2.2.2 (3, L, i) by omega)]
    rfl
  have q2 : ez_vQ ((xh h0 P c).1 (P.2.2.1 (4, L, i))) (nI j) = some (P.2.2.1 (xel L i v)) := by
    rw [xh4 hl4]
    show xrf P L i (c (4, L, i)) (nI j).toNatClampNeg = _
    rw [c1]
    unfold xrf
    rw [he, if_neg (by rw [nI_nm1 hv]; exact id), nI_clamp hv]
  have q3 : ez_ev g 152 [.ref (P.2.2.1 (3, L, i)), .int (nI j)] (xh h0 P c) = some (some (.ref (P.2.2.1 (xel L i v))), xh h0 P c) := by
    rw [e152]
    simp only [s152_0, s152_1, s152_4, s152_5, s152_6, s152_6n, zl_n, zl_i, zl_r, zl_0, z10, z01, ez_bd_s, ez_bd_n, eq_self, true_or, or_true, if_true, if_false, zb_eq, zb_eq1, zb_em, zb_em2, ite_not, List.append_nil, List.cons_append, List.nil_append, reduceCtorEq, not_true_eq_false, not_false_eq_true, xo1, xa1, xf1_0, xv1_0, xp1_0, xf1_1, xv1_1, xf1_2, xv1_2, xp1_2, xf1_3, xv1_3, xf1_4, xv1_4, xf1_5, xv1_5, xp1_5, xf1_6, xv1_6, xp1_6, xf1_7, xv1_7, xf1_8, xv1_8, xf1_9, xv1_9, xf1_10, xv1_10, xf1_11, xv1_11, xf1_12, xv1_12, xf1_13, xv1_13, xf1_14, xv1_14, xp1_14, xo3, xa3, xf3_0, xv3_0, xp3_0, xf3_1, xv3_1, xf3_2, xv3_2, xp3_2, xo5, xa5, xf5_0, xv5_0, xp5_0, xf5_1, xv5_1, xp5_1, xf5_2, xv5_2, xp5_2, xf5_3, xv5_3, xp5_3, xf5_4, xv5_4, xp5_4, xf5_5, xv5_5, xp5_5, xf5_6, xv5_6, xp5_6, xf5_7, xv5_7, xp5_7, xf5_8, xv5_8, xp5_8, xf5_9, xv5_9, xp5_9, xf5_10, xv5_10, xp5_10, xf5_11, xv5_11, xp5_11, xf5_12, xv5_12, xp5_12, xo6, xa6, xf6_0, xv6_0, xp6_0, xf6_1, xv6_1, xp6_1, xf6_2, xv6_2, xp6_2, xo7, xa7, xf7_0, xv7_0, xp7_0, xf7_1, xv7_1, xp7_1, xf7_2, xv7_2, xp7_2, xf7_3, xv7_3, xp7_3, xf7_4, xv7_4, xf7_5, xv7_5, xo8, xa8, xf8_0, xv8_0, xp8_0, xf8_1, xv8_1, xo10, xa10, xf10_0, xv10_0, xp10_0, xf10_1, xv10_1, xp10_1, xf10_2, xv10_2, xp10_2, xf10_3, xv10_3, xf10_4, xv10_4, xo12, xa12, xf12_0, xv12_0, xf12_1, xv12_1, xp12_1, xf12_2, xv12_2, xp12_2, xf12_3, xv12_3, xp12_3, xf12_4, xv12_4, xo13, xa13, xf13_0, xv13_0, xf13_1, xv13_1, xp13_1, xo14, xa14, xf14_0, xv14_0, xf14_1, xv14_1, xp14_1, xf14_2, xv14_2, xp14_2, xf14_3, xv14_3, xp14_3, ya2_1, yw2_1, yv2_1, yp2_1, yn2_1, yl2_1, ya2_3, yw2_3, yv2_3, yp2_3, yn2_3, yl2_3, ya2_10, yw2_10, yv2_10, yp2_10, yn2_10, yl2_10, ya2_11, yw2_11, yv2_11, yp2_11, yn2_11, yl2_11, ya9, yw9, yv9, yp9, yn9, yl9, ya11, yw11, yv11, yp11, yn11, yl11, ya15, yw15, yv15, yp15, yn15, yl15, ya16, yw16, yv16, yp16, yn16, yl16, ok10, ok11, ok1i, xu_s, xu_n, ne_eq, Prod.mk.injEq, Nat.reduceEqDiff, false_and, and_false, not_false_eq_true, hl, hc, q1, q2, va_rf]
  rw [e153]
  simp only [s153_0, s153_1, s153_2, s153_5, s153_8, s153_9, s153_10, s153_11, s153_14, zl_n, zl_i, zl_r, zl_0, z10, z01, ez_bd_s, ez_bd_n, eq_self, true_or, or_true, if_true, if_false, zb_eq, zb_eq1, zb_em, zb_em2, ite_not, List.append_nil, List.cons_append, List.nil_append, reduceCtorEq, not_true_eq_false, not_false_eq_true, xo1, xa1, xf1_0, xv1_0, xp1_0, xf1_1, xv1_1, xf1_2, xv1_2, xp1_2, xf1_3, xv1_3, xf1_4, xv1_4, xf1_5, xv1_5, xp1_5, xf1_6, xv1_6, xp1_6, xf1_7, xv1_7, xf1_8, xv1_8, xf1_9, xv1_9, xf1_10, xv1_10, xf1_11, xv1_11, xf1_12, xv1_12, xf1_13, xv1_13, xf1_14, xv1_14, xp1_14, xo3, xa3, xf3_0, xv3_0, xp3_0, xf3_1, xv3_1, xf3_2, xv3_2, xp3_2, xo5, xa5, xf5_0, xv5_0, xp5_0, xf5_1, xv5_1, xp5_1, xf5_2, xv5_2, xp5_2, xf5_3, xv5_3, xp5_3, xf5_4, xv5_4, xp5_4, xf5_5, xv5_5, xp5_5, xf5_6, xv5_6, xp5_6, xf5_7, xv5_7, xp5_7, xf5_8, xv5_8, xp5_8, xf5_9, xv5_9, xp5_9, xf5_10, xv5_10, xp5_10, xf5_11, xv5_11, xp5_11, xf5_12, xv5_12, xp5_12, xo6, xa6, xf6_0, xv6_0, xp6_0, xf6_1, xv6_1, xp6_1, xf6_2, xv6_2, xp6_2, xo7, xa7, xf7_0, xv7_0, xp7_0, xf7_1, xv7_1, xp7_1, xf7_2, xv7_2, xp7_2, xf7_3, xv7_3, xp7_3, xf7_4, xv7_4, xf7_5, xv7_5, xo8, xa8, xf8_0, xv8_0, xp8_0, xf8_1, xv8_1, xo10, xa10, xf10_0, xv10_0, xp10_0, xf10_1, xv10_1, xp10_1, xf10_2, xv10_2, xp10_2, xf10_3, xv10_3, xf10_4, xv10_4, xo12, xa12, xf12_0, xv12_0, xf12_1, xv12_1, xp12_1, xf12_2, xv12_2, xp12_2, xf12_3, xv12_3, xp12_3, xf12_4, xv12_4, xo13, xa13, xf13_0, xv13_0, xf13_1, xv13_1, xp13_1, xo14, xa14, xf14_0, xv14_0, xf14_1, xv14_1, xp14_1, xf14_2, xv14_2, xp14_2, xf14_3, xv14_3, xp14_3, ya2_1, yw2_1, yv2_1, yp2_1, yn2_1, yl2_1, ya2_3, yw2_3, yv2_3, yp2_3, yn2_3, yl2_3, ya2_10, yw2_10, yv2_10, yp2_10, yn2_10, yl2_10, ya2_11, yw2_11, yv2_11, yp2_11, yn2_11, yl2_11, ya9, yw9, yv9, yp9, yn9, yl9, ya11, yw11, yv11, yp11, yn11, yl11, ya15, yw15, yv15, yp15, yn15, yl15, ya16, yw16, yv16, yp16, yn16, yl16, ok10, ok11, ok1i, xu_s, xu_n, ne_eq, Prod.mk.injEq, Nat.reduceEqDiff, false_and, and_false, not_false_eq_true, hl, h2, q_cki (g := g) (h := xh h0 P c) (nI_pos (show j < 2 ^ 31 by omega)) (nI_lt hj (by omega)), q3]
end LS
