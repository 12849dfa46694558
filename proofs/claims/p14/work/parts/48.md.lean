
theorem wm_eq {D : va_G} {cy : Nat → ClassId} {mo : Nat} {a : Nat → Nat} {f1 f2 : Nat → Int32} {g1 g2 : Nat → Int64} {r1 r2 : Nat → Nat → Int32} {q1 q2 : Nat → Nat → Int64} {H : Heap} (ef : f1 = f2) (eg : g1 = g2) (er : r1 = r2) (eq : q1 = q2) (h : va_P D vwCl (WM cy mo a f1 g1 r1 q1) H) : va_P D vwCl (WM cy mo a f2 g2 r2 q2) H := by
  subst ef; subst eg; subst er; subst eq
  exact h
theorem ec_f_11_12__11_12_13 (f : Nat → Int32) (v11 : Int32) (v12 : Int32) : (upd (upd f 11 v11) 12 v12) = (upd (upd (upd f 11 v11) 12 v12) 13 (f 13)) := by
  funext j9
  simp only [upd] <;> (repeat' split) <;> simp_all
theorem ec_g___14 (f : Nat → Int64)  : f = (vp_updL f 14 (f 14)) := by
  funext j9
  simp only [vp_updL] <;> (repeat' split) <;> simp_all
theorem ms_10 (cy : Nat → ClassId) (mo : Nat) (a : Nat → Nat) (f : Nat → Int32) (g : Nat → Int64) (r : Nat → Nat → Int32) (q : Nat → Nat → Int64) (w : Nat → Int32) : (WM cy mo a f g r q).set 9 (a 10, .inl (cy 0, 6, .inl w)) = WM cy mo a f g (va_up r 10 w) q := rfl
theorem es_r_10_9__10 (f : Nat → Nat → Int32) (v10 : Nat → Int32) (v9 : Nat → Int32) (w : Nat → Int32) : va_up (va_up (va_up f 10 v10) 9 v9) 10 w = va_up (va_up f 9 v9) 10 w := by
  funext j9
  simp only [va_up] <;> (repeat' split) <;> simp_all
theorem es_r_9_10__10 (f : Nat → Nat → Int32) (v9 : Nat → Int32) (v10 : Nat → Int32) (w : Nat → Int32) : va_up (va_up (va_up f 9 v9) 10 v10) 10 w = va_up (va_up f 9 v9) 10 w := by
  funext j9
  simp only [va_up] <;> (repeat' split) <;> simp_all
theorem ec_f_12_11__11_12 (f : Nat → Int32) (v12 : Int32) (v11 : Int32) : (upd (upd f 12 v12) 11 v11) = (upd (upd f 11 v11) 12 v12) := by
  funext j9
  simp only [upd] <;> (repeat' split) <;> simp_all
theorem ec_r_9_10__10_9 (f : Nat → Nat → Int32) (v9 : Nat → Int32) (v10 : Nat → Int32) : (va_up (va_up f 9 v9) 10 v10) = (va_up (va_up f 10 v10) 9 v9) := by
  funext j9
  simp only [va_up] <;> (repeat' split) <;> simp_all
theorem ec_f___11_12 (f : Nat → Int32)  : f = (upd (upd f 11 (f 11)) 12 (f 12)) := by
  funext j9
  simp only [upd] <;> (repeat' split) <;> simp_all
theorem ec_r___10_9 (f : Nat → Nat → Int32)  : f = (va_up (va_up f 10 (f 10)) 9 (f 9)) := by
  funext j9
  simp only [va_up] <;> (repeat' split) <;> simp_all
theorem ec_f_0__0_1 (f : Nat → Int32) (v0 : Int32) : (upd f 0 v0) = (upd (upd f 0 v0) 1 (f 1)) := by
  funext j9
  simp only [upd] <;> (repeat' split) <;> simp_all
theorem ec_r___2_3_4_6_7 (f : Nat → Nat → Int32)  : f = (va_up (va_up (va_up (va_up (va_up f 2 (f 2)) 3 (f 3)) 4 (f 4)) 6 (f 6)) 7 (f 7)) := by
  funext j9
  simp only [va_up] <;> (repeat' split) <;> simp_all
theorem ms_2 (cy : Nat → ClassId) (mo : Nat) (a : Nat → Nat) (f : Nat → Int32) (g : Nat → Int64) (r : Nat → Nat → Int32) (q : Nat → Nat → Int64) (w : Nat → Int32) : (WM cy mo a f g r q).set 1 (a 2, .inl (cy 0, 8, .inl w)) = WM cy mo a f g (va_up r 2 w) q := rfl
theorem ms_3 (cy : Nat → ClassId) (mo : Nat) (a : Nat → Nat) (f : Nat → Int32) (g : Nat → Int64) (r : Nat → Nat → Int32) (q : Nat → Nat → Int64) (w : Nat → Int32) : (WM cy mo a f g r q).set 2 (a 3, .inl (cy 0, 8, .inl w)) = WM cy mo a f g (va_up r 3 w) q := rfl
theorem ms_4 (cy : Nat → ClassId) (mo : Nat) (a : Nat → Nat) (f : Nat → Int32) (g : Nat → Int64) (r : Nat → Nat → Int32) (q : Nat → Nat → Int64) (w : Nat → Int32) : (WM cy mo a f g r q).set 3 (a 4, .inl (cy 0, 8, .inl w)) = WM cy mo a f g (va_up r 4 w) q := rfl
theorem ms_6 (cy : Nat → ClassId) (mo : Nat) (a : Nat → Nat) (f : Nat → Int32) (g : Nat → Int64) (r : Nat → Nat → Int32) (q : Nat → Nat → Int64) (w : Nat → Int32) : (WM cy mo a f g r q).set 5 (a 6, .inl (cy 2, 32, .inl w)) = WM cy mo a f g (va_up r 6 w) q := rfl
theorem es_r_2_3_4_6__6 (f : Nat → Nat → Int32) (v2 : Nat → Int32) (v3 : Nat → Int32) (v4 : Nat → Int32) (v6 : Nat → Int32) (w : Nat → Int32) : va_up (va_up (va_up (va_up (va_up f 2 v2) 3 v3) 4 v4) 6 v6) 6 w = va_up (va_up (va_up (va_up f 2 v2) 3 v3) 4 v4) 6 w := by
  funext j9
  simp only [va_up] <;> (repeat' split) <;> simp_all
theorem ec_r_2_3_4_6_7__2_3_4_6_7 (f : Nat → Nat → Int32) (v2 : Nat → Int32) (v3 : Nat → Int32) (v4 : Nat → Int32) (v6 : Nat → Int32) (v7 : Nat → Int32) : (va_up (va_up (va_up (va_up (va_up f 2 v2) 3 v3) 4 v4) 6 v6) 7 v7) = (va_up (va_up (va_up (va_up (va_up f 2 v2) 3 v3) 4 v4) 6 v6) 7 v7) := by
  funext j9
  simp only [va_up] <;> (repeat' split) <;> simp_all
theorem ms_7 (cy : Nat → ClassId) (mo : Nat) (a : Nat → Nat) (f : Nat → Int32) (g : Nat → Int64) (r : Nat → Nat → Int32) (q : Nat → Nat → Int64) (w : Nat → Int32) : (WM cy mo a f g r q).set 6 (a 7, .inl (cy 0, 288, .inl w)) = WM cy mo a f g (va_up r 7 w) q := rfl
theorem es_r_2_3_4_6_7__7 (f : Nat → Nat → Int32) (v2 : Nat → Int32) (v3 : Nat → Int32) (v4 : Nat → Int32) (v6 : Nat → Int32) (v7 : Nat → Int32) (w : Nat → Int32) : va_up (va_up (va_up (va_up (va_up (va_up f 2 v2) 3 v3) 4 v4) 6 v6) 7 v7) 7 w = va_up (va_up (va_up (va_up (va_up f 2 v2) 3 v3) 4 v4) 6 v6) 7 w := by
  funext j9
  simp only [va_up] <;> (repeat' split) <;> simp_all
theorem ec_r_2_3_4_6__2_3_4_6_7 (f : Nat → Nat → Int32) (v2 : Nat → Int32) (v3 : Nat → Int32) (v4 : Nat → Int32) (v6 : Nat → Int32) : (va_up (va_up (va_up (va_up f 2 v2) 3 v3) 4 v4) 6 v6) = (va_up (va_up (va_up (va_up (va_up f 2 v2) 3 v3) 4 v4) 6 v6) 7 (f 7)) := by
  funext j9
  simp only [va_up] <;> (repeat' split) <;> simp_all
theorem ms_15 (cy : Nat → ClassId) (mo : Nat) (a : Nat → Nat) (f : Nat → Int32) (g : Nat → Int64) (r : Nat → Nat → Int32) (q : Nat → Nat → Int64) (w : Nat → Int32) : (WM cy mo a f g r q).set 10 (a 15, .inl (cy 0, 6, .inl w)) = WM cy mo a f g (va_up r 15 w) q := rfl
theorem es_r_15__15 (f : Nat → Nat → Int32) (v15 : Nat → Int32) (w : Nat → Int32) : va_up (va_up f 15 v15) 15 w = va_up f 15 w := by
  funext j9
  simp only [va_up] <;> (repeat' split) <;> simp_all
theorem ec_r_15__15 (f : Nat → Nat → Int32) (v15 : Nat → Int32) : (va_up f 15 v15) = (va_up f 15 v15) := by
  funext j9
  simp only [va_up] <;> (repeat' split) <;> simp_all
theorem ec_r___15 (f : Nat → Nat → Int32)  : f = (va_up f 15 (f 15)) := by
  funext j9
  simp only [va_up] <;> (repeat' split) <;> simp_all
theorem ec_f___11_12_13_17 (f : Nat → Int32)  : f = (upd (upd (upd (upd f 11 (f 11)) 12 (f 12)) 13 (f 13)) 17 (f 17)) := by
  funext j9
  simp only [upd] <;> (repeat' split) <;> simp_all
theorem ec_g___14_16 (f : Nat → Int64)  : f = (vp_updL (vp_updL f 14 (f 14)) 16 (f 16)) := by
  funext j9
  simp only [vp_updL] <;> (repeat' split) <;> simp_all
theorem ec_f_17_11_12_13__11_12_13_17 (f : Nat → Int32) (v17 : Int32) (v11 : Int32) (v12 : Int32) (v13 : Int32) : (upd (upd (upd (upd f 17 v17) 11 v11) 12 v12) 13 v13) = (upd (upd (upd (upd f 11 v11) 12 v12) 13 v13) 17 v17) := by
  funext j9
  simp only [upd] <;> (repeat' split) <;> simp_all
theorem ec_g_16_14__14_16 (f : Nat → Int64) (v16 : Int64) (v14 : Int64) : (vp_updL (vp_updL f 16 v16) 14 v14) = (vp_updL (vp_updL f 14 v14) 16 v16) := by
  funext j9
  simp only [vp_updL] <;> (repeat' split) <;> simp_all
theorem ec_f_11_12_13__11_12_13_17 (f : Nat → Int32) (v11 : Int32) (v12 : Int32) (v13 : Int32) : (upd (upd (upd f 11 v11) 12 v12) 13 v13) = (upd (upd (upd (upd f 11 v11) 12 v12) 13 v13) 17 (f 17)) := by
  funext j9
  simp only [upd] <;> (repeat' split) <;> simp_all
theorem ec_r_10__10_9 (f : Nat → Nat → Int32) (v10 : Nat → Int32) : (va_up f 10 v10) = (va_up (va_up f 10 v10) 9 (f 9)) := by
  funext j9
  simp only [va_up] <;> (repeat' split) <;> simp_all
theorem ec_f_11_12_13_17_0__0_11_12_13_17 (f : Nat → Int32) (v11 : Int32) (v12 : Int32) (v13 : Int32) (v17 : Int32) (v0 : Int32) : (upd (upd (upd (upd (upd f 11 v11) 12 v12) 13 v13) 17 v17) 0 v0) = (upd (upd (upd (upd (upd f 0 v0) 11 v11) 12 v12) 13 v13) 17 v17) := by
  funext j9
  simp only [upd] <;> (repeat' split) <;> simp_all
theorem ec_g___18 (f : Nat → Int64)  : f = (vp_updL f 18 (f 18)) := by
  funext j9
  simp only [vp_updL] <;> (repeat' split) <;> simp_all
theorem ec_r___9 (f : Nat → Nat → Int32)  : f = (va_up f 9 (f 9)) := by
  funext j9
  simp only [va_up] <;> (repeat' split) <;> simp_all
theorem ms_26 (cy : Nat → ClassId) (mo : Nat) (a : Nat → Nat) (f : Nat → Int32) (g : Nat → Int64) (r : Nat → Nat → Int32) (q : Nat → Nat → Int64) (w : Nat → Int64) : (WM cy mo a f g r q).set 14 (a 26, .inl (cy 1, 12, .inr (.inl w))) = WM cy mo a f g r (va_up q 26 w) := rfl
theorem ec_f_0_24_25_23__0_23_24_25 (f : Nat → Int32) (v0 : Int32) (v24 : Int32) (v25 : Int32) (v23 : Int32) : (upd (upd (upd (upd f 0 v0) 24 v24) 25 v25) 23 v23) = (upd (upd (upd (upd f 0 v0) 23 v23) 24 v24) 25 v25) := by
  funext j9
  simp only [upd] <;> (repeat' split) <;> simp_all
theorem ec_q_26__26 (f : Nat → Nat → Int64) (v26 : Nat → Int64) : (va_up f 26 v26) = (va_up f 26 v26) := by
  funext j9
  simp only [va_up] <;> (repeat' split) <;> simp_all
theorem ec_f_0__0_23_24_25 (f : Nat → Int32) (v0 : Int32) : (upd f 0 v0) = (upd (upd (upd (upd f 0 v0) 23 (f 23)) 24 (f 24)) 25 (f 25)) := by
  funext j9
  simp only [upd] <;> (repeat' split) <;> simp_all
theorem ec_q___26 (f : Nat → Nat → Int64)  : f = (va_up f 26 (f 26)) := by
  funext j9
  simp only [va_up] <;> (repeat' split) <;> simp_all
theorem ms_27 (cy : Nat → ClassId) (mo : Nat) (a : Nat → Nat) (f : Nat → Int32) (g : Nat → Int64) (r : Nat → Nat → Int32) (q : Nat → Nat → Int64) (w : Nat → Int32) : (WM cy mo a f g r q).set 15 (a 27, .inl (cy 0, 121, .inl w)) = WM cy mo a f g (va_up r 27 w) q := rfl
theorem es_r_27__27 (f : Nat → Nat → Int32) (v27 : Nat → Int32) (w : Nat → Int32) : va_up (va_up f 27 v27) 27 w = va_up f 27 w := by
  funext j9
  simp only [va_up] <;> (repeat' split) <;> simp_all
theorem ec_r_28_27__27_28 (f : Nat → Nat → Int32) (v28 : Nat → Int32) (v27 : Nat → Int32) : (va_up (va_up f 28 v28) 27 v27) = (va_up (va_up f 27 v27) 28 v28) := by
  funext j9
  simp only [va_up] <;> (repeat' split) <;> simp_all
theorem es_r_28_27__27 (f : Nat → Nat → Int32) (v28 : Nat → Int32) (v27 : Nat → Int32) (w : Nat → Int32) : va_up (va_up (va_up f 28 v28) 27 v27) 27 w = va_up (va_up f 28 v28) 27 w := by
  funext j9
  simp only [va_up] <;> (repeat' split) <;> simp_all
theorem ec_r_28_27__28_27 (f : Nat → Nat → Int32) (v28 : Nat → Int32) (v27 : Nat → Int32) : (va_up (va_up f 28 v28) 27 v27) = (va_up (va_up f 28 v28) 27 v27) := by
  funext j9
  simp only [va_up] <;> (repeat' split) <;> simp_all
theorem ec_r_27_28__28_27 (f : Nat → Nat → Int32) (v27 : Nat → Int32) (v28 : Nat → Int32) : (va_up (va_up f 27 v27) 28 v28) = (va_up (va_up f 28 v28) 27 v27) := by
  funext j9
  simp only [va_up] <;> (repeat' split) <;> simp_all
theorem ms_28 (cy : Nat → ClassId) (mo : Nat) (a : Nat → Nat) (f : Nat → Int32) (g : Nat → Int64) (r : Nat → Nat → Int32) (q : Nat → Nat → Int64) (w : Nat → Int32) : (WM cy mo a f g r q).set 16 (a 28, .inl (cy 0, 121, .inl w)) = WM cy mo a f g (va_up r 28 w) q := rfl
theorem es_r_27_28__28 (f : Nat → Nat → Int32) (v27 : Nat → Int32) (v28 : Nat → Int32) (w : Nat → Int32) : va_up (va_up (va_up f 27 v27) 28 v28) 28 w = va_up (va_up f 27 v27) 28 w := by
  funext j9
  simp only [va_up] <;> (repeat' split) <;> simp_all
theorem ec_r_27_28__27_28 (f : Nat → Nat → Int32) (v27 : Nat → Int32) (v28 : Nat → Int32) : (va_up (va_up f 27 v27) 28 v28) = (va_up (va_up f 27 v27) 28 v28) := by
  funext j9
  simp only [va_up] <;> (repeat' split) <;> simp_all
theorem ec_r_27__27_28 (f : Nat → Nat → Int32) (v27 : Nat → Int32) : (va_up f 27 v27) = (va_up (va_up f 27 v27) 28 (f 28)) := by
  funext j9
  simp only [va_up] <;> (repeat' split) <;> simp_all
theorem ec_r_27__27 (f : Nat → Nat → Int32) (v27 : Nat → Int32) : (va_up f 27 v27) = (va_up f 27 v27) := by
  funext j9
  simp only [va_up] <;> (repeat' split) <;> simp_all
theorem ec_r___27 (f : Nat → Nat → Int32)  : f = (va_up f 27 (f 27)) := by
  funext j9
  simp only [va_up] <;> (repeat' split) <;> simp_all
theorem ec_r___27_28 (f : Nat → Nat → Int32)  : f = (va_up (va_up f 27 (f 27)) 28 (f 28)) := by
  funext j9
  simp only [va_up] <;> (repeat' split) <;> simp_all
theorem ec_r___29_30 (f : Nat → Nat → Int32)  : f = (va_up (va_up f 29 (f 29)) 30 (f 30)) := by
  funext j9
  simp only [va_up] <;> (repeat' split) <;> simp_all
theorem ec_q___33 (f : Nat → Nat → Int64)  : f = (va_up f 33 (f 33)) := by
  funext j9
  simp only [va_up] <;> (repeat' split) <;> simp_all
theorem ms_29 (cy : Nat → ClassId) (mo : Nat) (a : Nat → Nat) (f : Nat → Int32) (g : Nat → Int64) (r : Nat → Nat → Int32) (q : Nat → Nat → Int64) (w : Nat → Int32) : (WM cy mo a f g r q).set 17 (a 29, .inl (cy 0, 8, .inl w)) = WM cy mo a f g (va_up r 29 w) q := rfl
theorem ms_30 (cy : Nat → ClassId) (mo : Nat) (a : Nat → Nat) (f : Nat → Int32) (g : Nat → Int64) (r : Nat → Nat → Int32) (q : Nat → Nat → Int64) (w : Nat → Int32) : (WM cy mo a f g r q).set 18 (a 30, .inl (cy 0, 8, .inl w)) = WM cy mo a f g (va_up r 30 w) q := rfl
theorem ec_r_29_30__29_30 (f : Nat → Nat → Int32) (v29 : Nat → Int32) (v30 : Nat → Int32) : (va_up (va_up f 29 v29) 30 v30) = (va_up (va_up f 29 v29) 30 v30) := by
  funext j9
  simp only [va_up] <;> (repeat' split) <;> simp_all
theorem ms_33 (cy : Nat → ClassId) (mo : Nat) (a : Nat → Nat) (f : Nat → Int32) (g : Nat → Int64) (r : Nat → Nat → Int32) (q : Nat → Nat → Int64) (w : Nat → Int64) : (WM cy mo a f g r q).set 21 (a 33, .inl (cy 1, 480, .inr (.inl w))) = WM cy mo a f g r (va_up q 33 w) := rfl
theorem es_q_33__33 (f : Nat → Nat → Int64) (v33 : Nat → Int64) (w : Nat → Int64) : va_up (va_up f 33 v33) 33 w = va_up f 33 w := by
  funext j9
  simp only [va_up] <;> (repeat' split) <;> simp_all
theorem ec_q_33__33 (f : Nat → Nat → Int64) (v33 : Nat → Int64) : (va_up f 33 v33) = (va_up f 33 v33) := by
  funext j9
  simp only [va_up] <;> (repeat' split) <;> simp_all
theorem ec_q___33_34 (f : Nat → Nat → Int64)  : f = (va_up (va_up f 33 (f 33)) 34 (f 34)) := by
  funext j9
  simp only [va_up] <;> (repeat' split) <;> simp_all
theorem ec_q_34_33__33_34 (f : Nat → Nat → Int64) (v34 : Nat → Int64) (v33 : Nat → Int64) : (va_up (va_up f 34 v34) 33 v33) = (va_up (va_up f 33 v33) 34 v34) := by
  funext j9
  simp only [va_up] <;> (repeat' split) <;> simp_all
theorem es_q_34_33__33 (f : Nat → Nat → Int64) (v34 : Nat → Int64) (v33 : Nat → Int64) (w : Nat → Int64) : va_up (va_up (va_up f 34 v34) 33 v33) 33 w = va_up (va_up f 34 v34) 33 w := by
  funext j9
  simp only [va_up] <;> (repeat' split) <;> simp_all
theorem ec_q_34__34_33 (f : Nat → Nat → Int64) (v34 : Nat → Int64) : (va_up f 34 v34) = (va_up (va_up f 34 v34) 33 (f 33)) := by
  funext j9
  simp only [va_up] <;> (repeat' split) <;> simp_all
theorem ms_34 (cy : Nat → ClassId) (mo : Nat) (a : Nat → Nat) (f : Nat → Int32) (g : Nat → Int64) (r : Nat → Nat → Int32) (q : Nat → Nat → Int64) (w : Nat → Int64) : (WM cy mo a f g r q).set 22 (a 34, .inl (cy 1, 60, .inr (.inl w))) = WM cy mo a f g r (va_up q 34 w) := rfl
theorem es_q_34__34 (f : Nat → Nat → Int64) (v34 : Nat → Int64) (w : Nat → Int64) : va_up (va_up f 34 v34) 34 w = va_up f 34 w := by
  funext j9
  simp only [va_up] <;> (repeat' split) <;> simp_all
theorem ec_q_34__34 (f : Nat → Nat → Int64) (v34 : Nat → Int64) : (va_up f 34 v34) = (va_up f 34 v34) := by
  funext j9
  simp only [va_up] <;> (repeat' split) <;> simp_all
theorem ec_q___34 (f : Nat → Nat → Int64)  : f = (va_up f 34 (f 34)) := by
  funext j9
  simp only [va_up] <;> (repeat' split) <;> simp_all
theorem ec_r___29_30_31_32 (f : Nat → Nat → Int32)  : f = (va_up (va_up (va_up (va_up f 29 (f 29)) 30 (f 30)) 31 (f 31)) 32 (f 32)) := by
  funext j9
  simp only [va_up] <;> (repeat' split) <;> simp_all
theorem ec_r_29_30__29_30_31_32 (f : Nat → Nat → Int32) (v29 : Nat → Int32) (v30 : Nat → Int32) : (va_up (va_up f 29 v29) 30 v30) = (va_up (va_up (va_up (va_up f 29 v29) 30 v30) 31 (f 31)) 32 (f 32)) := by
  funext j9
  simp only [va_up] <;> (repeat' split) <;> simp_all
theorem ms_31 (cy : Nat → ClassId) (mo : Nat) (a : Nat → Nat) (f : Nat → Int32) (g : Nat → Int64) (r : Nat → Nat → Int32) (q : Nat → Nat → Int64) (w : Nat → Int32) : (WM cy mo a f g r q).set 19 (a 31, .inl (cy 0, 8, .inl w)) = WM cy mo a f g (va_up r 31 w) q := rfl
theorem ms_32 (cy : Nat → ClassId) (mo : Nat) (a : Nat → Nat) (f : Nat → Int32) (g : Nat → Int64) (r : Nat → Nat → Int32) (q : Nat → Nat → Int64) (w : Nat → Int32) : (WM cy mo a f g r q).set 20 (a 32, .inl (cy 0, 8, .inl w)) = WM cy mo a f g (va_up r 32 w) q := rfl
theorem ec_r_29_30_31_32__29_30_31_32 (f : Nat → Nat → Int32) (v29 : Nat → Int32) (v30 : Nat → Int32) (v31 : Nat → Int32) (v32 : Nat → Int32) : (va_up (va_up (va_up (va_up f 29 v29) 30 v30) 31 v31) 32 v32) = (va_up (va_up (va_up (va_up f 29 v29) 30 v30) 31 v31) 32 v32) := by
  funext j9
  simp only [va_up] <;> (repeat' split) <;> simp_all
theorem ms_21 (cy : Nat → ClassId) (mo : Nat) (a : Nat → Nat) (f : Nat → Int32) (g : Nat → Int64) (r : Nat → Nat → Int32) (q : Nat → Nat → Int64) (w : Nat → Int32) : (WM cy mo a f g r q).set 13 (a 21, .inl (cy 0, 65536, .inl w)) = WM cy mo a f g (va_up r 21 w) q := rfl
theorem ms_19 (cy : Nat → ClassId) (mo : Nat) (a : Nat → Nat) (f : Nat → Int32) (g : Nat → Int64) (r : Nat → Nat → Int32) (q : Nat → Nat → Int64) (w : Nat → Int64) : (WM cy mo a f g r q).set 11 (a 19, .inl (cy 1, 20000, .inr (.inl w))) = WM cy mo a f g r (va_up q 19 w) := rfl
theorem ms_20 (cy : Nat → ClassId) (mo : Nat) (a : Nat → Nat) (f : Nat → Int32) (g : Nat → Int64) (r : Nat → Nat → Int32) (q : Nat → Nat → Int64) (w : Nat → Int32) : (WM cy mo a f g r q).set 12 (a 20, .inl (cy 0, 20000, .inl w)) = WM cy mo a f g (va_up r 20 w) q := rfl
theorem ec_r_21_20__21_20 (f : Nat → Nat → Int32) (v21 : Nat → Int32) (v20 : Nat → Int32) : (va_up (va_up f 21 v21) 20 v20) = (va_up (va_up f 21 v21) 20 v20) := by
  funext j9
  simp only [va_up] <;> (repeat' split) <;> simp_all
theorem ec_q_19__19 (f : Nat → Nat → Int64) (v19 : Nat → Int64) : (va_up f 19 v19) = (va_up f 19 v19) := by
  funext j9
  simp only [va_up] <;> (repeat' split) <;> simp_all
theorem ec_f___22 (f : Nat → Int32)  : f = (upd f 22 (f 22)) := by
  funext j9
  simp only [upd] <;> (repeat' split) <;> simp_all
theorem ec_r___21_20 (f : Nat → Nat → Int32)  : f = (va_up (va_up f 21 (f 21)) 20 (f 20)) := by
  funext j9
  simp only [va_up] <;> (repeat' split) <;> simp_all
theorem ec_q___19 (f : Nat → Nat → Int64)  : f = (va_up f 19 (f 19)) := by
  funext j9
  simp only [va_up] <;> (repeat' split) <;> simp_all
theorem ec_f_0__0_22 (f : Nat → Int32) (v0 : Int32) : (upd f 0 v0) = (upd (upd f 0 v0) 22 (f 22)) := by
  funext j9
  simp only [upd] <;> (repeat' split) <;> simp_all
theorem es_r_21_20__21 (f : Nat → Nat → Int32) (v21 : Nat → Int32) (v20 : Nat → Int32) (w : Nat → Int32) : va_up (va_up (va_up f 21 v21) 20 v20) 21 w = va_up (va_up f 20 v20) 21 w := by
  funext j9
  simp only [va_up] <;> (repeat' split) <;> simp_all
theorem ec_r_20_21__21_20 (f : Nat → Nat → Int32) (v20 : Nat → Int32) (v21 : Nat → Int32) : (va_up (va_up f 20 v20) 21 v21) = (va_up (va_up f 21 v21) 20 v20) := by
  funext j9
  simp only [va_up] <;> (repeat' split) <;> simp_all
theorem es_r_21__21 (f : Nat → Nat → Int32) (v21 : Nat → Int32) (w : Nat → Int32) : va_up (va_up f 21 v21) 21 w = va_up f 21 w := by
  funext j9
  simp only [va_up] <;> (repeat' split) <;> simp_all
theorem ec_r_21__21 (f : Nat → Nat → Int32) (v21 : Nat → Int32) : (va_up f 21 v21) = (va_up f 21 v21) := by
  funext j9
  simp only [va_up] <;> (repeat' split) <;> simp_all
theorem ec_r___21 (f : Nat → Nat → Int32)  : f = (va_up f 21 (f 21)) := by
  funext j9
  simp only [va_up] <;> (repeat' split) <;> simp_all
theorem mi_job {f : Nat → Int32} {r : Nat → Nat → Int32} (h : MI f r) {k w hh jb : Int32} (hk : 0 ≤ k.toInt ∧ k.toInt ≤ 3) (hw : 1 ≤ w.toInt ∧ w.toInt ≤ 6) (hh' : 1 ≤ hh.toInt ∧ hh.toInt ≤ 6) (hlt : (f 1).toInt < 8) (hjb : jb.toInt = (f 1).toInt + 1) {f' : Nat → Int32} {r' : Nat → Nat → Int32} (e1 : f' 1 = jb) (e23 : f' 23 = f 23) (e24 : f' 24 = f 24) (e25 : f' 25 = f 25) (e2 : r' 2 = upd (r 2) (f 1).toNatClampNeg k) (e3 : r' 3 = upd (r 3) (f 1).toNatClampNeg w) (e4 : r' 4 = upd (r 4) (f 1).toNatClampNeg hh) (e30 : r' 30 = r 30) : MI f' r' := by
  obtain ⟨h1, h2, h3, h4, h5⟩ := h
  unfold MI
  rw [e1, e23, e24, e25, e2, e3, e4, e30]
  refine ⟨by omega, fun x hx0 hx1 => ?_, h3, h4, h5⟩
  have a1 := m_cl (x := x) hx0
  have a2 := m_cl (x := f 1) h1.1
  by_cases hx : x.toNatClampNeg = (f 1).toNatClampNeg
  · simp only [upd, hx, if_true]
    exact ⟨hw, hh', hk⟩
  · simp only [upd, hx, if_false]
    exact h2 x hx0 (by omega)
theorem mi_sz {f : Nat → Int32} {r : Nat → Nat → Int32} (h : MI f r) {d v : Int32} (hv : 0 ≤ v.toInt ∧ v.toInt ≤ 60) {f' : Nat → Int32} {r' : Nat → Nat → Int32} (e1 : f' 1 = f 1) (e23 : f' 23 = f 23) (e24 : f' 24 = f 24) (e25 : f' 25 = f 25) (e2 : r' 2 = r 2) (e3 : r' 3 = r 3) (e4 : r' 4 = r 4) (e30 : r' 30 = upd (r 30) d.toNatClampNeg v) : MI f' r' := by
  obtain ⟨h1, h2, h3, h4, h5⟩ := h
  unfold MI
  rw [e1, e23, e24, e25, e2, e3, e4, e30]
  refine ⟨h1, h2, h3, h4, fun x hx0 hx1 => ?_⟩
  by_cases hx : x.toNatClampNeg = d.toNatClampNeg
  · simp only [upd, hx, if_true]; exact hv
  · simp only [upd, hx, if_false]; exact h5 x hx0 hx1
theorem mi_li {f : Nat → Int32} {r : Nat → Nat → Int32} (h : MI f r) {f' : Nat → Int32} {r' : Nat → Nat → Int32} (e1 : f' 1 = f 1) (e23 : 0 ≤ (f' 23).toInt ∧ (f' 23).toInt ≤ 12) (e24 : 0 < (f' 23).toInt → (1 ≤ (f' 24).toInt ∧ (f' 24).toInt ≤ 6) ∧ (1 ≤ (f' 25).toInt ∧ (f' 25).toInt ≤ 6)) (e2 : r' 2 = r 2) (e3 : r' 3 = r 3) (e4 : r' 4 = r 4) (e30 : r' 30 = r 30) : MI f' r' := by
  obtain ⟨h1, h2, h3, h4, h5⟩ := h
  unfold MI
  rw [e1, e2, e3, e4, e30]
  exact ⟨h1, h2, e23, e24, h5⟩
theorem mi_s {f : Nat → Int32} {r : Nat → Nat → Int32} (h : MI f r) {x v : Int32} (h0 : 0 ≤ x.toInt) (h1 : x.toInt < 8) (e : v = r 30 x.toNatClampNeg) : 0 ≤ v.toInt ∧ v.toInt ≤ 60 := by rw [e]; exact h.2.2.2.2 x h0 h1
theorem bit1 {v x : Int32} (e : v = x &&& 1) : 0 ≤ v.toInt ∧ v.toInt ≤ 1 := by
  have h := pk_andIn x (m := 1) 1 (by decide) (by decide)
  rw [← e] at h
  have := vp_in_iff.mp h
  omega

def ct21 (p : Nat → Int32) : Nat := fb_ct (fun e => decide (0 ≤ (p e).toInt)) 65536
theorem ct21_free {p : Nat → Int32} (h : ct21 p < 65536) : ∃ e, e < 65536 ∧ (p e).toInt < 0 := by
  refine Classical.byContradiction fun hn => ?_
  have : fb_ct (fun e => decide (0 ≤ (p e).toInt)) 65536 = 65536 := fb_ct_all.mpr (fun k hk => by
    simp only [decide_eq_true_eq]
    refine Classical.byContradiction fun hz => hn ⟨k, hk, by omega⟩)
  unfold ct21 at h
  omega
theorem ct21_put {p : Nat → Int32} {i : Nat} {v : Int32} (hi : i < 65536) (h0 : (p i).toInt < 0) : ct21 (upd p i v) ≤ ct21 p + 1 := by
  have h := fb_ct_upd (fun k => decide (0 ≤ (p k).toInt)) (decide (0 ≤ v.toInt)) (i := i) (n := 65536) hi
  have e : (fun k => decide (0 ≤ (upd p i v k).toInt)) = (fun k => if k = i then decide (0 ≤ v.toInt) else decide (0 ≤ (p k).toInt)) := by
    funext k
    unfold upd
    split <;> rfl
  unfold ct21
  rw [e]
  have h2 : (if (fun k => decide (0 ≤ (p k).toInt)) i = true then 1 else 0 : Nat) = 0 := by simp; omega
  rw [h2] at h
  split at h <;> omega
theorem ct21_none {p : Nat → Int32} (h : ∀ e, e < 65536 → (p e).toInt < 0) : ct21 p = 0 := fb_ct_zero.mpr (fun k hk => by simp only [decide_eq_false_iff_not]; have := h k hk; omega)
theorem ush48 (x : Int64) : 0 ≤ ((x.toUInt64 >>> ((48 : Int32).toInt64.toUInt64 &&& Int64.toUInt64 63)).toInt64.toInt32).toInt ∧ ((x.toUInt64 >>> ((48 : Int32).toInt64.toUInt64 &&& Int64.toUInt64 63)).toInt64.toInt32).toInt < 65536 := by
  have e : ((48 : Int32).toInt64.toUInt64 &&& Int64.toUInt64 63) = (48 : UInt64) := by decide
  rw [e]
  generalize x.toUInt64 = u
  have h1 : (u >>> 48).toNat = u.toNat / 2 ^ 48 := by
    rw [UInt64.toNat_shiftRight]
    have : (48 : UInt64).toNat % 64 = 48 := by decide
    rw [this, Nat.shiftRight_eq_div_pow]
  have h2 : u.toNat < 2 ^ 64 := u.toNat_lt
  have h3 : (u >>> 48).toNat < 65536 := by rw [h1]; omega
  generalize (u >>> 48) = v at h3
  have h4 : v.toInt64.toInt = (v.toNat : Int) := by
    show v.toBitVec.toInt = _
    rw [BitVec.toInt_eq_toNat_of_lt (by show 2 * v.toNat < 2 ^ 64; omega)]
    rfl
  have h5 : v.toInt64.toInt32.toInt = (v.toNat : Int) := by
    rw [Int64.toInt_toInt32, h4]
    exact Int.bmod_eq_of_le (by omega) (by omega)
  rw [h5]
  omega
def PB (p : Nat → Int32) : Prop := ∀ e, e < 65536 → (p e).toInt < 20000
theorem pb_at {p : Nat → Int32} (h : PB p) {x v : Int32} (h0 : 0 ≤ x.toInt) (h1 : x.toInt < 65536) (e : v = p x.toNatClampNeg) : v.toInt < 20000 := by
  have := m_cl h0
  rw [e]
  exact h _ (by omega)
theorem pb_put {p : Nat → Int32} (h : PB p) {i : Nat} {v : Int32} (hv : v.toInt < 20000) : PB (upd p i v) := fun e he => by
  unfold upd
  split
  · exact hv
  · exact h e he
theorem mul4 {w h : Int} (hw : 1 ≤ w ∧ w ≤ 6) (hh : 1 ≤ h ∧ h ≤ 6) : (1 ≤ w * h ∧ w * h ≤ 36) ∧ (1 ≤ w * h * w ∧ w * h * w ≤ 216) ∧ (1 ≤ w * h * w * h ∧ w * h * w * h ≤ 1296) ∧ (1 ≤ w * w ∧ w * w ≤ 36) ∧ (1 ≤ w * w * h ∧ w * w * h ≤ 216) := by
  have h1 : w = 1 ∨ w = 2 ∨ w = 3 ∨ w = 4 ∨ w = 5 ∨ w = 6 := by omega
  have h2 : h = 1 ∨ h = 2 ∨ h = 3 ∨ h = 4 ∨ h = 5 ∨ h = 6 := by omega
  rcases h1 with e | e | e | e | e | e <;> rcases h2 with z | z | z | z | z | z <;> rw [e, z] <;> decide

