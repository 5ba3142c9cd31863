theorem bef {v : Int32} : ((v + (-1)) &&& 63).toInt = (v.toInt - 1) % 64 := by
  rw [aft]
  have : (-1 : Int32).toInt = -1 := by decide
  rw [this]
  congr 1
/-- the class's rest -/
theorem e_rest {G : Nat → Nat} {B : AA} {R : RR} {H : Nat} {Z : AA} {r : Int32} (h : C_X7_rest G B R H Z r) : Z = uA B H (upd (upd (upd (B H) 13 1) 10 0) 12 (B H 12 + 1)) ∧ ((r = 0 ∧ (B H 12 + 1).toInt ≤ (B H 5).toInt) ∨ (r = 2 ∧ ¬ (B H 12 + 1).toInt ≤ (B H 5).toInt)) := by
  rcases h with ⟨B_2, rfl, B_4, rfl, x_7, ex_7, B_8, rfl, c1, rfl, rfl⟩ | ⟨B_2, rfl, B_4, rfl, x_7, ex_7, B_8, rfl, c1, rfl, rfl⟩
  · subst ex_7
    exact ⟨by simp only [uA_s, uA_u], Or.inl ⟨rfl, c1⟩⟩
  · subst ex_7
    exact ⟨by simp only [uA_s, uA_u], Or.inr ⟨rfl, c1⟩⟩
/-- a pair rests -/
theorem SIM.rest {x q : Nat} {t0 t1 t2 : Int32} (ht : 2 ≤ t0.toInt) {U : AA} {R : RR} {A : AA} {pk : Int32} (h : SIM x t0 t1 t2 U R A pk) (hV : RW A pk) (hq : q < 4) (hst : (A 10 q).toInt = 1) {v : Int32} (ev : v = A 17 q + 1) : SIM x t0 t1 t2 (uA U (x + 77 + 17 * q) (upd (upd (upd (upd (U (x + 77 + 17 * q)) 9 (U (x + 77 + 17 * q) 8)) 13 1) 10 0) 12 (A 17 q + 1))) R (uA (uA (uA (uA A 13 (upd (A 13) q (A 12 q))) 18 (upd (A 18) q 1)) 15 (upd (A 15) q 0)) 17 (upd (A 17) q v)) pk := by
  obtain ⟨y1, y2, y3, y4, y5, y6, y7, y8, y9, y10⟩ := (h.2.2.2.2.2 q hq).2.1
  have y2s := y2 hst
  have i1 := i_1t
  have iz := i_0
  refine h.rq hV hq hst (fun j hj => by rw [upd_n (by omega), upd_n (by omega), upd_n (by omega), upd_n (by omega)]) (fun j hj => by rw [uA_n (by omega), uA_n (by omega), uA_n (by omega), uA_n (by omega)]) (fun j k hk => ?_) y2s.1 y2s.2.1 (y2s.2.1.trans upd_s.symm) upd_s.symm y3.2.1 ?_ upd_s.symm ?_ ?_
  · by_cases e1 : j = 17
    · subst e1; exact upd_n hk
    by_cases e2 : j = 15
    · subst e2; exact upd_n hk
    by_cases e3 : j = 18
    · subst e3; exact upd_n hk
    by_cases e4 : j = 13
    · subst e4; exact upd_n hk
    rw [uA_n e1, uA_n e2, uA_n e3, uA_n e4]
  · show A 17 q + 1 = upd (A 17) q v q
    rw [upd_s, ev]
  · show TIM t0 (upd (A 18) q 1 q) (upd (A 15) q 0 q)
    rw [upd_s, upd_s]
    exact ⟨fun e => by omega, fun _ => by omega⟩
  · show B01 (upd (A 18) q 1 q)
    rw [upd_s]; exact Or.inr rfl
/-- the cursor goes back -/
theorem SIM.back {x q : Nat} {t0 t1 t2 : Int32} {U : AA} {R : RR} {A : AA} {pk : Int32} (h : SIM x t0 t1 t2 U R A pk) (hV : RW A pk) (hq : q < 4) (hst : (A 10 q).toInt = 1) : SIM x t0 t1 t2 (uA U (x + 77 + 17 * q) (upd (U (x + 77 + 17 * q)) 9 (U (x + 77 + 17 * q) 8))) R (uA A 13 (upd (A 13) q (A 12 q))) pk := by
  obtain ⟨y1, y2, y3, y4, y5, y6, y7, y8, y9, y10⟩ := (h.2.2.2.2.2 q hq).2.1
  have y2s := y2 hst
  have y4s := y4 (by omega)
  refine h.rq hV hq hst (fun j hj => by rw [upd_n (by omega)]) (fun j hj => by rw [uA_n (by omega)]) (fun j k hk => ?_) y2s.1 y2s.2.1 (y2s.2.1.trans upd_s.symm) y3.1 y3.2.1 y3.2.2 y4s.1 y4s.2 y8
  by_cases e4 : j = 13
  · subst e4; exact upd_n hk
  rw [uA_n e4]
/-- how a pair takes a NAK in -/
theorem s_nak {x q : Nat} {G : Nat → Nat} {t0 t1 t2 : Int32} (ht : 2 ≤ t0.toInt) {B : AA} {R : RR} {A : AA} {pk cd : Int32} (h : SIM x t0 t1 t2 B R A pk) (hV : RW A pk) (hq : q < 4) (hst : (A 10 q).toInt = 1) {p : Int32} (hp : (q : Int) = p.toInt) {d : Int} (hJ : PJD A q d) (hcu : 0 ≤ (A 13 q).toInt ∧ (A 13 q).toInt ≤ 63) {nm rs : Int32} (e43 : nm = A 43 24) (e45 : rs = A 45 24) (b43 : 0 ≤ (A 43 24).toInt ∧ (A 43 24).toInt ≤ 63) (b45 : 1 ≤ (A 45 24).toInt ∧ (A 45 24).toInt ≤ 4) {U : AA} {r : Int32} (hc : C_X7_takeNak G B R (x + 77 + 17 * q) nm rs U r) {Z : AA} (hf : (r.toInt = 0 ∧ Z = U) ∨ (¬ r.toInt = 0 ∧ C_X3_fail G U R (x + 84 + 17 * q) r 5 Z)) {A' : AA} {cdz pkz : Int32} (hd : D_X10_refused t0 t1 t2 A cd pk p A' cdz pkz) : SIM x t0 t1 t2 Z R A' pk ∧ pkz = pk := by
  subst e43 e45
  have hh := h
  obtain ⟨hS, -, -, -, -, hPQ⟩ := hh
  obtain ⟨hC, hPS, -, -, -⟩ := hPQ q hq
  have p2s := hPS.2.1 hst
  have j8 := hJ.2.2.2.2.2.2.2.1
  have hopen : ∀ {v : Int32}, C_X7_isOpen G B R (x + 77 + 17 * q) (A 43 24) v → (v.toInt = 0 ∧ ((A 13 q).toInt - (A 12 q).toInt) % 64 ≤ ((A 43 24).toInt - (A 12 q).toInt) % 64) ∨ (¬ v.toInt = 0 ∧ ((A 43 24).toInt - (A 12 q).toInt) % 64 < ((A 13 q).toInt - (A 12 q).toInt) % 64) := fun ho => by
    have e := e_open ho
    rw [p2s.2.1, p2s.2.2.1] at e
    exact e
  have e5 : ∀ {v : Int32}, v = ((((A 43) 24) - ((A 12) q)) + 64) - ((((A 43) 24) - ((A 12) q)) + 64) / 64 * 64 → v.toInt = ((A 43 24).toInt - (A 12 q).toInt) % 64 := fun e => by rw [e]; exact far_m j8 b43
  have iz := i_0
  -- after the answers
  have ack : ∀ {A1 U7 : AA} {v k c1 k1 : Int32}, v = (A 43 24 + (-1)) &&& 63 → k.toInt = ((A 43 24).toInt - (A 12 q).toInt) % 64 → C_X7_takeAck G B R (x + 77 + 17 * q) v U7 → D_X10_answerSome A cd pk p k A1 c1 k1 → SIM x t0 t1 t2 U7 R A1 pk ∧ k1 = pk ∧ (∀ a, x + 1 ≤ a → a < x + 55 → U7 a = B a) ∧ (∀ j, ¬ NA1 j → A1 j = A j) ∧ RW A1 pk := fun ev ek ha hd => s_ack ht h hV hq hst hp hJ (by rw [ev, bef, ek]; omega) ha hd
  have post : ∀ {A1 U7 : AA}, SIM x t0 t1 t2 U7 R A1 pk → (∀ j, ¬ NA1 j → A1 j = A j) → (A1 10 q).toInt = 1 ∧ U7 (x + 77 + 17 * q) 8 = A1 12 q ∧ A1 43 = A 43 ∧ A1 45 = A 45 ∧ PS x q t0 U7 A1 ∧ CST x q t0 t1 t2 U7 := fun {A1 U7} hs hn => by
    have hst1 : (A1 10 q).toInt = 1 := by rw [hn 10 (by unfold NA1; omega)]; exact hst
    have hp1 := (hs.2.2.2.2.2 q hq).2.1
    exact ⟨hst1, (hp1.2.1 hst1).2.1, hn 43 (by unfold NA1; omega), hn 45 (by unfold NA1; omega), hp1, (hs.2.2.2.2.2 q hq).1⟩
  rcases hd with ⟨n_1d, hn_1d, x_5d, ex_5d, x_9d, ex_9d, fx_9d, c1d, ur_11d, hanswerSomed, c2d, c3d, c4d, c5d, c6d, c7d, g_17d, rfl, c8d, g_19d, rfl, g_20d, rfl, x_22d, ex_22d, g_23d, rfl, c9d, eZd, rfl, rfl⟩ | ⟨n_1d, hn_1d, x_5d, ex_5d, x_9d, ex_9d, fx_9d, c1d, ur_11d, hanswerSomed, c2d, c3d, c4d, c5d, c6d, c7d, g_17d, rfl, c8d, g_19d, rfl, g_20d, rfl, x_22d, ex_22d, g_23d, rfl, c9d, ur_28d, hfailPaird, c10d, c11d, c12d, eZd, rfl, rfl⟩ | ⟨n_1d, hn_1d, x_5d, ex_5d, x_9d, ex_9d, fx_9d, c1d, ur_11d, hanswerSomed, c2d, c3d, c4d, c5d, c6d, c7d, g_17d, rfl, c8d, eZd, rfl, rfl⟩ | ⟨n_1d, hn_1d, x_5d, ex_5d, x_9d, ex_9d, fx_9d, c1d, ur_11d, hanswerSomed, c2d, c3d, c4d, c5d, c6d, c7d, ur_30d, hfailPaird, c8d, c9d, c10d, eZd, rfl, rfl⟩ | ⟨n_1d, hn_1d, x_5d, ex_5d, x_9d, ex_9d, fx_9d, c1d, ur_11d, hanswerSomed, c2d, c3d, c4d, c5d, c6d, eZd, rfl, rfl⟩ | ⟨n_1d, hn_1d, x_5d, ex_5d, x_9d, ex_9d, fx_9d, c1d, eZd, rfl, rfl⟩
  all_goals obtain rfl : n_1d = q := by omega
  · have hx : x_9d.toInt = ((A 13 n_1d).toInt - (A 12 n_1d).toInt) % 64 := by rw [fx_9d]; omega
    have hx5 := e5 ex_5d
    rcases hc with ⟨r_2, hisOpen, c1, r_4, er_4, U_7, hF, htakeAck, c2, c3, eZ, rfl⟩ | ⟨r_2, hisOpen, c1, r_4, er_4, U_7, hF, htakeAck, c2, c3, c4, B_12, rfl, c5, eZ, rfl⟩ | ⟨r_2, hisOpen, c1, r_4, er_4, U_7, hF, htakeAck, c2, c3, c4, B_12, rfl, c5, r_15, U_16, hF_1, hrest, eZ, rfl⟩ | ⟨r_2, hisOpen, c1, r_4, er_4, U_7, hF, htakeAck, c2, c3, c4, eZ, rfl⟩ | ⟨r_2, hisOpen, c1, r_4, er_4, U_7, hF, htakeAck, c2, eZ, rfl⟩ | ⟨r_2, hisOpen, c1, eZ, rfl⟩
    · obtain ⟨a1, a2, a3, a4, a5⟩ := ack er_4 (e5 ex_5d) htakeAck hanswerSomed
      obtain ⟨b1, b2, b3, b4, b5, b6⟩ := post a1 a4
      have b2i := congrArg Int32.toInt b2
      exfalso
      omega
    · obtain ⟨a1, a2, a3, a4, a5⟩ := ack er_4 (e5 ex_5d) htakeAck hanswerSomed
      obtain ⟨b1, b2, b3, b4, b5, b6⟩ := post a1 a4
      have b2i := congrArg Int32.toInt b2
      exfalso
      omega
    · obtain ⟨a1, a2, a3, a4, a5⟩ := ack er_4 (e5 ex_5d) htakeAck hanswerSomed
      obtain ⟨b1, b2, b3, b4, b5, b6⟩ := post a1 a4
      have b2i := congrArg Int32.toInt b2
      obtain ⟨r1, r2⟩ := e_rest hrest
      simp only [uA_u, uA_s] at r1 r2
      have u12 : upd (U_7 (x + 77 + 17 * n_1d)) 9 (U_7 (x + 77 + 17 * n_1d) 8) 12 = U_7 (x + 77 + 17 * n_1d) 12 := rfl
      have u5 : upd (U_7 (x + 77 + 17 * n_1d)) 9 (U_7 (x + 77 + 17 * n_1d) 8) 5 = U_7 (x + 77 + 17 * n_1d) 5 := rfl
      rw [u12] at r1
      rw [u12, u5, b6.2.2.2.1] at r2
      obtain ⟨y1, y2, y3, y4, y5, y6, y7, y8, y9, y10⟩ := b5
      have y2s := y2 b1
      rw [y3.2.2] at r1 r2
      rw [ex_22d] at c9d
      rw [eZd]
      have hu : r = 0 := by
        rcases r2 with ⟨e, -⟩ | ⟨-, e⟩
        · exact e
        · exact absurd c9d e
      rw [hu] at hf
      have hf := (hf.resolve_right (fun e => e.1 iz)).2
      rw [hf, eZ, r1]
      refine ⟨?_, rfl⟩
      exact SIM.rest ht a1 a5 hq b1 ex_22d
    · obtain ⟨a1, a2, a3, a4, a5⟩ := ack er_4 (e5 ex_5d) htakeAck hanswerSomed
      obtain ⟨b1, b2, b3, b4, b5, b6⟩ := post a1 a4
      have b2i := congrArg Int32.toInt b2
      exfalso
      omega
    · obtain ⟨a1, a2, a3, a4, a5⟩ := ack er_4 (e5 ex_5d) htakeAck hanswerSomed
      obtain ⟨b1, b2, b3, b4, b5, b6⟩ := post a1 a4
      have b2i := congrArg Int32.toInt b2
      exfalso
      exact c2 (c6d.trans b2i.symm)
    · have := hopen hisOpen; exfalso; omega
  · have hx : x_9d.toInt = ((A 13 n_1d).toInt - (A 12 n_1d).toInt) % 64 := by rw [fx_9d]; omega
    have hx5 := e5 ex_5d
    rcases hc with ⟨r_2, hisOpen, c1, r_4, er_4, U_7, hF, htakeAck, c2, c3, eZ, rfl⟩ | ⟨r_2, hisOpen, c1, r_4, er_4, U_7, hF, htakeAck, c2, c3, c4, B_12, rfl, c5, eZ, rfl⟩ | ⟨r_2, hisOpen, c1, r_4, er_4, U_7, hF, htakeAck, c2, c3, c4, B_12, rfl, c5, r_15, U_16, hF_1, hrest, eZ, rfl⟩ | ⟨r_2, hisOpen, c1, r_4, er_4, U_7, hF, htakeAck, c2, c3, c4, eZ, rfl⟩ | ⟨r_2, hisOpen, c1, r_4, er_4, U_7, hF, htakeAck, c2, eZ, rfl⟩ | ⟨r_2, hisOpen, c1, eZ, rfl⟩
    · obtain ⟨a1, a2, a3, a4, a5⟩ := ack er_4 (e5 ex_5d) htakeAck hanswerSomed
      obtain ⟨b1, b2, b3, b4, b5, b6⟩ := post a1 a4
      have b2i := congrArg Int32.toInt b2
      exfalso
      omega
    · obtain ⟨a1, a2, a3, a4, a5⟩ := ack er_4 (e5 ex_5d) htakeAck hanswerSomed
      obtain ⟨b1, b2, b3, b4, b5, b6⟩ := post a1 a4
      have b2i := congrArg Int32.toInt b2
      exfalso
      omega
    · obtain ⟨a1, a2, a3, a4, a5⟩ := ack er_4 (e5 ex_5d) htakeAck hanswerSomed
      obtain ⟨b1, b2, b3, b4, b5, b6⟩ := post a1 a4
      have b2i := congrArg Int32.toInt b2
      obtain ⟨r1, r2⟩ := e_rest hrest
      simp only [uA_u, uA_s] at r1 r2
      have u12 : upd (U_7 (x + 77 + 17 * n_1d)) 9 (U_7 (x + 77 + 17 * n_1d) 8) 12 = U_7 (x + 77 + 17 * n_1d) 12 := rfl
      have u5 : upd (U_7 (x + 77 + 17 * n_1d)) 9 (U_7 (x + 77 + 17 * n_1d) 8) 5 = U_7 (x + 77 + 17 * n_1d) 5 := rfl
      rw [u12] at r1
      rw [u12, u5, b6.2.2.2.1] at r2
      obtain ⟨y1, y2, y3, y4, y5, y6, y7, y8, y9, y10⟩ := b5
      have y2s := y2 b1
      rw [y3.2.2] at r1 r2
      rw [ex_22d] at c9d
      have hu : r = 2 := by
        rcases r2 with ⟨-, e⟩ | ⟨e, -⟩
        · exact absurd e c9d
        · exact e
      rw [hu] at hf
      obtain ⟨-, hf⟩ := hf.resolve_left (fun e => by have := i_2; omega)
      rw [eZ, r1] at hf
      obtain ⟨-, -, f3, -, -⟩ := (SIM.rest ht a1 a5 hq b1 ex_22d).fail (st := 2) (rs := 0) (a5.cg rfl rfl rfl) hq hp (by decide) (by decide) hf hfailPaird
      rw [eZd]
      exact ⟨f3, rfl⟩
    · obtain ⟨a1, a2, a3, a4, a5⟩ := ack er_4 (e5 ex_5d) htakeAck hanswerSomed
      obtain ⟨b1, b2, b3, b4, b5, b6⟩ := post a1 a4
      have b2i := congrArg Int32.toInt b2
      exfalso
      omega
    · obtain ⟨a1, a2, a3, a4, a5⟩ := ack er_4 (e5 ex_5d) htakeAck hanswerSomed
      obtain ⟨b1, b2, b3, b4, b5, b6⟩ := post a1 a4
      have b2i := congrArg Int32.toInt b2
      exfalso
      exact c2 (c6d.trans b2i.symm)
    · have := hopen hisOpen; exfalso; omega
  · have hx : x_9d.toInt = ((A 13 n_1d).toInt - (A 12 n_1d).toInt) % 64 := by rw [fx_9d]; omega
    have hx5 := e5 ex_5d
    rcases hc with ⟨r_2, hisOpen, c1, r_4, er_4, U_7, hF, htakeAck, c2, c3, eZ, rfl⟩ | ⟨r_2, hisOpen, c1, r_4, er_4, U_7, hF, htakeAck, c2, c3, c4, B_12, rfl, c5, eZ, rfl⟩ | ⟨r_2, hisOpen, c1, r_4, er_4, U_7, hF, htakeAck, c2, c3, c4, B_12, rfl, c5, r_15, U_16, hF_1, hrest, eZ, rfl⟩ | ⟨r_2, hisOpen, c1, r_4, er_4, U_7, hF, htakeAck, c2, c3, c4, eZ, rfl⟩ | ⟨r_2, hisOpen, c1, r_4, er_4, U_7, hF, htakeAck, c2, eZ, rfl⟩ | ⟨r_2, hisOpen, c1, eZ, rfl⟩
    · obtain ⟨a1, a2, a3, a4, a5⟩ := ack er_4 (e5 ex_5d) htakeAck hanswerSomed
      obtain ⟨b1, b2, b3, b4, b5, b6⟩ := post a1 a4
      have b2i := congrArg Int32.toInt b2
      exfalso
      omega
    · obtain ⟨a1, a2, a3, a4, a5⟩ := ack er_4 (e5 ex_5d) htakeAck hanswerSomed
      obtain ⟨b1, b2, b3, b4, b5, b6⟩ := post a1 a4
      have b2i := congrArg Int32.toInt b2
      rw [eZ] at hf
      have hf := (hf.resolve_right (fun e => e.1 iz)).2
      rw [hf, eZd]
      exact ⟨SIM.back a1 a5 hq b1, rfl⟩
    · obtain ⟨a1, a2, a3, a4, a5⟩ := ack er_4 (e5 ex_5d) htakeAck hanswerSomed
      obtain ⟨b1, b2, b3, b4, b5, b6⟩ := post a1 a4
      have b2i := congrArg Int32.toInt b2
      exfalso
      omega
    · obtain ⟨a1, a2, a3, a4, a5⟩ := ack er_4 (e5 ex_5d) htakeAck hanswerSomed
      obtain ⟨b1, b2, b3, b4, b5, b6⟩ := post a1 a4
      have b2i := congrArg Int32.toInt b2
      exfalso
      omega
    · obtain ⟨a1, a2, a3, a4, a5⟩ := ack er_4 (e5 ex_5d) htakeAck hanswerSomed
      obtain ⟨b1, b2, b3, b4, b5, b6⟩ := post a1 a4
      have b2i := congrArg Int32.toInt b2
      exfalso
      exact c2 (c6d.trans b2i.symm)
    · have := hopen hisOpen; exfalso; omega
  · have hx : x_9d.toInt = ((A 13 n_1d).toInt - (A 12 n_1d).toInt) % 64 := by rw [fx_9d]; omega
    have hx5 := e5 ex_5d
    rcases hc with ⟨r_2, hisOpen, c1, r_4, er_4, U_7, hF, htakeAck, c2, c3, eZ, rfl⟩ | ⟨r_2, hisOpen, c1, r_4, er_4, U_7, hF, htakeAck, c2, c3, c4, B_12, rfl, c5, eZ, rfl⟩ | ⟨r_2, hisOpen, c1, r_4, er_4, U_7, hF, htakeAck, c2, c3, c4, B_12, rfl, c5, r_15, U_16, hF_1, hrest, eZ, rfl⟩ | ⟨r_2, hisOpen, c1, r_4, er_4, U_7, hF, htakeAck, c2, c3, c4, eZ, rfl⟩ | ⟨r_2, hisOpen, c1, r_4, er_4, U_7, hF, htakeAck, c2, eZ, rfl⟩ | ⟨r_2, hisOpen, c1, eZ, rfl⟩
    · obtain ⟨a1, a2, a3, a4, a5⟩ := ack er_4 (e5 ex_5d) htakeAck hanswerSomed
      obtain ⟨b1, b2, b3, b4, b5, b6⟩ := post a1 a4
      have b2i := congrArg Int32.toInt b2
      rw [eZ] at hf
      obtain ⟨-, hf⟩ := hf.resolve_left (fun e => by omega)
      obtain ⟨-, -, f3, -, -⟩ := a1.fail (rs := 0) a5 hq hp (by rw [if_pos (by omega)]) (by decide) hf hfailPaird
      rw [eZd]
      exact ⟨f3, rfl⟩
    · obtain ⟨a1, a2, a3, a4, a5⟩ := ack er_4 (e5 ex_5d) htakeAck hanswerSomed
      obtain ⟨b1, b2, b3, b4, b5, b6⟩ := post a1 a4
      have b2i := congrArg Int32.toInt b2
      exfalso
      omega
    · obtain ⟨a1, a2, a3, a4, a5⟩ := ack er_4 (e5 ex_5d) htakeAck hanswerSomed
      obtain ⟨b1, b2, b3, b4, b5, b6⟩ := post a1 a4
      have b2i := congrArg Int32.toInt b2
      exfalso
      omega
    · obtain ⟨a1, a2, a3, a4, a5⟩ := ack er_4 (e5 ex_5d) htakeAck hanswerSomed
      obtain ⟨b1, b2, b3, b4, b5, b6⟩ := post a1 a4
      have b2i := congrArg Int32.toInt b2
      rw [eZ] at hf
      obtain ⟨-, hf⟩ := hf.resolve_left (fun e => by omega)
      obtain ⟨-, -, f3, -, -⟩ := a1.fail (rs := 0) a5 hq hp (by rw [if_pos (by omega)]) (by decide) hf hfailPaird
      rw [eZd]
      exact ⟨f3, rfl⟩
    · obtain ⟨a1, a2, a3, a4, a5⟩ := ack er_4 (e5 ex_5d) htakeAck hanswerSomed
      obtain ⟨b1, b2, b3, b4, b5, b6⟩ := post a1 a4
      have b2i := congrArg Int32.toInt b2
      exfalso
      exact c2 (c6d.trans b2i.symm)
    · have := hopen hisOpen; exfalso; omega
  · have hx : x_9d.toInt = ((A 13 n_1d).toInt - (A 12 n_1d).toInt) % 64 := by rw [fx_9d]; omega
    have hx5 := e5 ex_5d
    rcases hc with ⟨r_2, hisOpen, c1, r_4, er_4, U_7, hF, htakeAck, c2, c3, eZ, rfl⟩ | ⟨r_2, hisOpen, c1, r_4, er_4, U_7, hF, htakeAck, c2, c3, c4, B_12, rfl, c5, eZ, rfl⟩ | ⟨r_2, hisOpen, c1, r_4, er_4, U_7, hF, htakeAck, c2, c3, c4, B_12, rfl, c5, r_15, U_16, hF_1, hrest, eZ, rfl⟩ | ⟨r_2, hisOpen, c1, r_4, er_4, U_7, hF, htakeAck, c2, c3, c4, eZ, rfl⟩ | ⟨r_2, hisOpen, c1, r_4, er_4, U_7, hF, htakeAck, c2, eZ, rfl⟩ | ⟨r_2, hisOpen, c1, eZ, rfl⟩
    · obtain ⟨a1, a2, a3, a4, a5⟩ := ack er_4 (e5 ex_5d) htakeAck hanswerSomed
      obtain ⟨b1, b2, b3, b4, b5, b6⟩ := post a1 a4
      have b2i := congrArg Int32.toInt b2
      exfalso
      exact c6d (c2.trans b2i)
    · obtain ⟨a1, a2, a3, a4, a5⟩ := ack er_4 (e5 ex_5d) htakeAck hanswerSomed
      obtain ⟨b1, b2, b3, b4, b5, b6⟩ := post a1 a4
      have b2i := congrArg Int32.toInt b2
      exfalso
      exact c6d (c2.trans b2i)
    · obtain ⟨a1, a2, a3, a4, a5⟩ := ack er_4 (e5 ex_5d) htakeAck hanswerSomed
      obtain ⟨b1, b2, b3, b4, b5, b6⟩ := post a1 a4
      have b2i := congrArg Int32.toInt b2
      exfalso
      exact c6d (c2.trans b2i)
    · obtain ⟨a1, a2, a3, a4, a5⟩ := ack er_4 (e5 ex_5d) htakeAck hanswerSomed
      obtain ⟨b1, b2, b3, b4, b5, b6⟩ := post a1 a4
      have b2i := congrArg Int32.toInt b2
      exfalso
      exact c6d (c2.trans b2i)
    · obtain ⟨a1, a2, a3, a4, a5⟩ := ack er_4 (e5 ex_5d) htakeAck hanswerSomed
      obtain ⟨b1, b2, b3, b4, b5, b6⟩ := post a1 a4
      have b2i := congrArg Int32.toInt b2
      rw [eZ] at hf
      have hf := (hf.resolve_right (fun e => e.1 iz)).2
      rw [hf, eZd]
      exact ⟨a1, rfl⟩
    · have := hopen hisOpen; exfalso; omega
  · rw [eZd]
    have hx : x_9d.toInt = ((A 13 n_1d).toInt - (A 12 n_1d).toInt) % 64 := by rw [fx_9d]; omega
    have hx5 := e5 ex_5d
    rcases hc with ⟨r_2, hisOpen, c1, r_4, er_4, U_7, hF, htakeAck, c2, c3, eZ, rfl⟩ | ⟨r_2, hisOpen, c1, r_4, er_4, U_7, hF, htakeAck, c2, c3, c4, B_12, rfl, c5, eZ, rfl⟩ | ⟨r_2, hisOpen, c1, r_4, er_4, U_7, hF, htakeAck, c2, c3, c4, B_12, rfl, c5, r_15, U_16, hF_1, hrest, eZ, rfl⟩ | ⟨r_2, hisOpen, c1, r_4, er_4, U_7, hF, htakeAck, c2, c3, c4, eZ, rfl⟩ | ⟨r_2, hisOpen, c1, r_4, er_4, U_7, hF, htakeAck, c2, eZ, rfl⟩ | ⟨r_2, hisOpen, c1, eZ, rfl⟩
    · have := hopen hisOpen; exfalso; omega
    · have := hopen hisOpen; exfalso; omega
    · have := hopen hisOpen; exfalso; omega
    · have := hopen hisOpen; exfalso; omega
    · have := hopen hisOpen; exfalso; omega
    · rw [eZ] at hf
      have hf := (hf.resolve_right (fun e => e.1 iz)).2
      rw [hf]
      exact ⟨h, rfl⟩
