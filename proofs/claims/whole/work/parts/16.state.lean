/-- a state: its ints, its rows of ints, its rows of longs, its longs, each by its number -/
abbrev jj_S : Type := (Nat → Int32) × (Nat → Nat → Int32) × (Nat → Nat → Int64) × (Nat → Int64)
def tx_sg (s : jj_S) : Nat → Int32 := s.2.1 0
def tx_sgS (s : jj_S) (v : Nat → Int32) : jj_S := (s.1, jU s.2.1 0 v, s.2.2)
def tx_len (s : jj_S) : Int32 := s.1 0
def tx_lenS (s : jj_S) (v : Int32) : jj_S := (jU s.1 0 v, s.2)
def tx_ts (s : jj_S) : Int32 := s.1 1
def tx_tsS (s : jj_S) (v : Int32) : jj_S := (jU s.1 1 v, s.2)
def tx_te (s : jj_S) : Int32 := s.1 2
def tx_teS (s : jj_S) (v : Int32) : jj_S := (jU s.1 2 v, s.2)
def tx_wd (s : jj_S) : Nat → Int32 := s.2.1 1
def tx_wdS (s : jj_S) (v : Nat → Int32) : jj_S := (s.1, jU s.2.1 1 v, s.2.2)
def tx_fs (s : jj_S) : Nat → Int32 := s.2.1 2
def tx_fsS (s : jj_S) (v : Nat → Int32) : jj_S := (s.1, jU s.2.1 2 v, s.2.2)
def tx_sc (s : jj_S) : Nat → Int32 := s.2.1 3
def tx_scS (s : jj_S) (v : Nat → Int32) : jj_S := (s.1, jU s.2.1 3 v, s.2.2)
def tx_lc (s : jj_S) : Int32 := s.1 3
def tx_lcS (s : jj_S) (v : Int32) : jj_S := (jU s.1 3 v, s.2)
def tn_go (s : jj_S) : Nat → Int32 := s.2.1 4
def tn_goS (s : jj_S) (v : Nat → Int32) : jj_S := (s.1, jU s.2.1 4 v, s.2.2)
def tn_ah (s : jj_S) : Nat → Int32 := s.2.1 5
def tn_ahS (s : jj_S) (v : Nat → Int32) : jj_S := (s.1, jU s.2.1 5 v, s.2.2)
def wa_op (s : jj_S) : Nat → Int32 := s.2.1 6
def wa_opS (s : jj_S) (v : Nat → Int32) : jj_S := (s.1, jU s.2.1 6 v, s.2.2)
def wa_rw (s : jj_S) : Nat → Int32 := s.2.1 7
def wa_rwS (s : jj_S) (v : Nat → Int32) : jj_S := (s.1, jU s.2.1 7 v, s.2.2)
def wa_fr (s : jj_S) : Nat → Int32 := s.2.1 8
def wa_frS (s : jj_S) (v : Nat → Int32) : jj_S := (s.1, jU s.2.1 8 v, s.2.2)
def wa_rc (s : jj_S) : Int32 := s.1 4
def wa_rcS (s : jj_S) (v : Int32) : jj_S := (jU s.1 4 v, s.2)
def wa_wc (s : jj_S) : Int32 := s.1 5
def wa_wcS (s : jj_S) (v : Int32) : jj_S := (jU s.1 5 v, s.2)
def wa_ws (s : jj_S) : Int32 := s.1 6
def wa_wsS (s : jj_S) (v : Int32) : jj_S := (jU s.1 6 v, s.2)
def wa_wn (s : jj_S) : Int32 := s.1 7
def wa_wnS (s : jj_S) (v : Int32) : jj_S := (jU s.1 7 v, s.2)
def wa_rf (s : jj_S) : Int32 := s.1 8
def wa_rfS (s : jj_S) (v : Int32) : jj_S := (jU s.1 8 v, s.2)
def wa_wf (s : jj_S) : Int32 := s.1 9
def wa_wfS (s : jj_S) (v : Int32) : jj_S := (jU s.1 9 v, s.2)
def sh_he (s : jj_S) : Nat → Int64 := s.2.2.1 0
def sh_heS (s : jj_S) (v : Nat → Int64) : jj_S := (s.1, s.2.1, jU s.2.2.1 0 v, s.2.2.2)
def sh_th (s : jj_S) : Nat → Int64 := s.2.2.1 1
def sh_thS (s : jj_S) (v : Nat → Int64) : jj_S := (s.1, s.2.1, jU s.2.2.1 1 v, s.2.2.2)
def s0_kd (s : jj_S) : Nat → Int32 := s.2.1 9
def s0_kdS (s : jj_S) (v : Nat → Int32) : jj_S := (s.1, jU s.2.1 9 v, s.2.2)
def s0_tu (s : jj_S) : Nat → Int32 := s.2.1 10
def s0_tuS (s : jj_S) (v : Nat → Int32) : jj_S := (s.1, jU s.2.1 10 v, s.2.2)
def s0_pl (s : jj_S) : Int32 := s.1 10
def s0_plS (s : jj_S) (v : Int32) : jj_S := (jU s.1 10 v, s.2)
def s0_en (s : jj_S) : Int32 := s.1 11
def s0_enS (s : jj_S) (v : Int32) : jj_S := (jU s.1 11 v, s.2)
def s0_st (s : jj_S) : Int32 := s.1 12
def s0_stS (s : jj_S) (v : Int32) : jj_S := (jU s.1 12 v, s.2)
def s0_tk (s : jj_S) : Int32 := s.1 13
def s0_tkS (s : jj_S) (v : Int32) : jj_S := (jU s.1 13 v, s.2)
def s1_kd (s : jj_S) : Nat → Int32 := s.2.1 11
def s1_kdS (s : jj_S) (v : Nat → Int32) : jj_S := (s.1, jU s.2.1 11 v, s.2.2)
def s1_tu (s : jj_S) : Nat → Int32 := s.2.1 12
def s1_tuS (s : jj_S) (v : Nat → Int32) : jj_S := (s.1, jU s.2.1 12 v, s.2.2)
def s1_pl (s : jj_S) : Int32 := s.1 14
def s1_plS (s : jj_S) (v : Int32) : jj_S := (jU s.1 14 v, s.2)
def s1_en (s : jj_S) : Int32 := s.1 15
def s1_enS (s : jj_S) (v : Int32) : jj_S := (jU s.1 15 v, s.2)
def s1_st (s : jj_S) : Int32 := s.1 16
def s1_stS (s : jj_S) (v : Int32) : jj_S := (jU s.1 16 v, s.2)
def s1_tk (s : jj_S) : Int32 := s.1 17
def s1_tkS (s : jj_S) (v : Int32) : jj_S := (jU s.1 17 v, s.2)
def s2_kd (s : jj_S) : Nat → Int32 := s.2.1 13
def s2_kdS (s : jj_S) (v : Nat → Int32) : jj_S := (s.1, jU s.2.1 13 v, s.2.2)
def s2_tu (s : jj_S) : Nat → Int32 := s.2.1 14
def s2_tuS (s : jj_S) (v : Nat → Int32) : jj_S := (s.1, jU s.2.1 14 v, s.2.2)
def s2_pl (s : jj_S) : Int32 := s.1 18
def s2_plS (s : jj_S) (v : Int32) : jj_S := (jU s.1 18 v, s.2)
def s2_en (s : jj_S) : Int32 := s.1 19
def s2_enS (s : jj_S) (v : Int32) : jj_S := (jU s.1 19 v, s.2)
def s2_st (s : jj_S) : Int32 := s.1 20
def s2_stS (s : jj_S) (v : Int32) : jj_S := (jU s.1 20 v, s.2)
def s2_tk (s : jj_S) : Int32 := s.1 21
def s2_tkS (s : jj_S) (v : Int32) : jj_S := (jU s.1 21 v, s.2)
def s3_kd (s : jj_S) : Nat → Int32 := s.2.1 15
def s3_kdS (s : jj_S) (v : Nat → Int32) : jj_S := (s.1, jU s.2.1 15 v, s.2.2)
def s3_tu (s : jj_S) : Nat → Int32 := s.2.1 16
def s3_tuS (s : jj_S) (v : Nat → Int32) : jj_S := (s.1, jU s.2.1 16 v, s.2.2)
def s3_pl (s : jj_S) : Int32 := s.1 22
def s3_plS (s : jj_S) (v : Int32) : jj_S := (jU s.1 22 v, s.2)
def s3_en (s : jj_S) : Int32 := s.1 23
def s3_enS (s : jj_S) (v : Int32) : jj_S := (jU s.1 23 v, s.2)
def s3_st (s : jj_S) : Int32 := s.1 24
def s3_stS (s : jj_S) (v : Int32) : jj_S := (jU s.1 24 v, s.2)
def s3_tk (s : jj_S) : Int32 := s.1 25
def s3_tkS (s : jj_S) (v : Int32) : jj_S := (jU s.1 25 v, s.2)
def mo_ball (s : jj_S) : Nat → Int32 := s.2.1 17
def mo_ballS (s : jj_S) (v : Nat → Int32) : jj_S := (s.1, jU s.2.1 17 v, s.2.2)
def mo_wall (s : jj_S) : Nat → Int32 := s.2.1 18
def mo_wallS (s : jj_S) (v : Nat → Int32) : jj_S := (s.1, jU s.2.1 18 v, s.2.2)
def mo_told (s : jj_S) : Nat → Int32 := s.2.1 19
def mo_toldS (s : jj_S) (v : Nat → Int32) : jj_S := (s.1, jU s.2.1 19 v, s.2.2)
def mo_kind (s : jj_S) : Nat → Int32 := s.2.1 20
def mo_kindS (s : jj_S) (v : Nat → Int32) : jj_S := (s.1, jU s.2.1 20 v, s.2.2)
def mo_tf (s : jj_S) : Int32 := s.1 26
def mo_tfS (s : jj_S) (v : Int32) : jj_S := (jU s.1 26 v, s.2)
def mo_td (s : jj_S) : Int32 := s.1 27
def mo_tdS (s : jj_S) (v : Int32) : jj_S := (jU s.1 27 v, s.2)
def mo_fi (s : jj_S) : Int32 := s.1 28
def mo_fiS (s : jj_S) (v : Int32) : jj_S := (jU s.1 28 v, s.2)
def mo_sd (s : jj_S) : Int32 := s.1 29
def mo_sdS (s : jj_S) (v : Int32) : jj_S := (jU s.1 29 v, s.2)
def mo_st (s : jj_S) : Int32 := s.1 30
def mo_stS (s : jj_S) (v : Int32) : jj_S := (jU s.1 30 v, s.2)
def mo_by (s : jj_S) : Int32 := s.1 31
def mo_byS (s : jj_S) (v : Int32) : jj_S := (jU s.1 31 v, s.2)
def mo_text (s : jj_S) : Nat → Int32 := s.2.1 21
def mo_textS (s : jj_S) (v : Nat → Int32) : jj_S := (s.1, jU s.2.1 21 v, s.2.2)
def mo_pos (s : jj_S) : Int32 := s.1 32
def mo_posS (s : jj_S) (v : Int32) : jj_S := (jU s.1 32 v, s.2)
def mo_tat (s : jj_S) : Int32 := s.1 33
def mo_tatS (s : jj_S) (v : Int32) : jj_S := (jU s.1 33 v, s.2)
def mo_tok (s : jj_S) : Int64 := s.2.2.2 0
def mo_tokS (s : jj_S) (v : Int64) : jj_S := (s.1, s.2.1, s.2.2.1, jU s.2.2.2 0 v)
def mo_dig (s : jj_S) : Int32 := s.1 34
def mo_digS (s : jj_S) (v : Int32) : jj_S := (jU s.1 34 v, s.2)
def mo_num (s : jj_S) : Int32 := s.1 35
def mo_numS (s : jj_S) (v : Int32) : jj_S := (jU s.1 35 v, s.2)
def mo_fa (s : jj_S) : Int32 := s.1 36
def mo_faS (s : jj_S) (v : Int32) : jj_S := (jU s.1 36 v, s.2)
def mo_rm (s : jj_S) : Int32 := s.1 37
def mo_rmS (s : jj_S) (v : Int32) : jj_S := (jU s.1 37 v, s.2)
def mo_read (s : jj_S) : Nat → Int32 := s.2.1 22
def mo_readS (s : jj_S) (v : Nat → Int32) : jj_S := (s.1, jU s.2.1 22 v, s.2.2)
def mo_img (s : jj_S) : Nat → Int32 := s.2.1 23
def mo_imgS (s : jj_S) (v : Nat → Int32) : jj_S := (s.1, jU s.2.1 23 v, s.2.2)
def mo_isk (s : jj_S) : Nat → Int32 := s.2.1 24
def mo_iskS (s : jj_S) (v : Nat → Int32) : jj_S := (s.1, jU s.2.1 24 v, s.2.2)
def mo_to (s : jj_S) : Nat → Int32 := s.2.1 25
def mo_toS (s : jj_S) (v : Nat → Int32) : jj_S := (s.1, jU s.2.1 25 v, s.2.2)
def mo_on (s : jj_S) : Nat → Int32 := s.2.1 26
def mo_onS (s : jj_S) (v : Nat → Int32) : jj_S := (s.1, jU s.2.1 26 v, s.2.2)
def mo_row (s : jj_S) : Nat → Int32 := s.2.1 27
def mo_rowS (s : jj_S) (v : Nat → Int32) : jj_S := (s.1, jU s.2.1 27 v, s.2.2)
def mo_now (s : jj_S) : Nat → Int64 := s.2.2.1 2
def mo_nowS (s : jj_S) (v : Nat → Int64) : jj_S := (s.1, s.2.1, jU s.2.2.1 2 v, s.2.2.2)
def mo_then (s : jj_S) : Nat → Int64 := s.2.2.1 3
def mo_thenS (s : jj_S) (v : Nat → Int64) : jj_S := (s.1, s.2.1, jU s.2.2.1 3 v, s.2.2.2)
def mo_fst (s : jj_S) : Nat → Int32 := s.2.1 28
def mo_fstS (s : jj_S) (v : Nat → Int32) : jj_S := (s.1, jU s.2.1 28 v, s.2.2)
/-- the cells of a state, in the order in which they are made -/
def jj_m (s : jj_S) : List jj_C := [.inl (5, [.ref 1, .ref 6, .ref 9, .ref 13, .ref 16, .ref 19, .ref 22, .ref 25]),
  .inl (2, [.ref 2, .int (tx_len s), .int (tx_ts s), .int (tx_te s), .ref 3, .ref 4, .ref 5, .int (tx_lc s)]),
  .inr (.inl (jv 200 (tx_sg s))),
  .inr (.inl (jv 12 (tx_wd s))),
  .inr (.inl (jv 12 (tx_fs s))),
  .inr (.inl (jv 12 (tx_sc s))),
  .inl (3, [.ref 7, .ref 8]),
  .inr (.inl (jv 720 (tn_go s))),
  .inr (.inl (jv 12 (tn_ah s))),
  .inl (4, [.ref 10, .ref 11, .ref 12, .int (wa_rc s), .int (wa_wc s), .int (wa_ws s), .int (wa_wn s), .int (wa_rf s), .int (wa_wf s)]),
  .inr (.inl (jv 12 (wa_op s))),
  .inr (.inl (jv 12 (wa_rw s))),
  .inr (.inl (jv 12 (wa_fr s))),
  .inl (1, [.ref 14, .ref 15]),
  .inr (.inr (.inr (jv 12 (sh_he s)))),
  .inr (.inr (.inr (jv 12 (sh_th s)))),
  .inl (0, [.ref 17, .ref 18, .int (s0_pl s), .int (s0_en s), .int (s0_st s), .int (s0_tk s)]),
  .inr (.inl (jv 12 (s0_kd s))),
  .inr (.inl (jv 12 (s0_tu s))),
  .inl (0, [.ref 20, .ref 21, .int (s1_pl s), .int (s1_en s), .int (s1_st s), .int (s1_tk s)]),
  .inr (.inl (jv 12 (s1_kd s))),
  .inr (.inl (jv 12 (s1_tu s))),
  .inl (0, [.ref 23, .ref 24, .int (s2_pl s), .int (s2_en s), .int (s2_st s), .int (s2_tk s)]),
  .inr (.inl (jv 12 (s2_kd s))),
  .inr (.inl (jv 12 (s2_tu s))),
  .inl (0, [.ref 26, .ref 27, .int (s3_pl s), .int (s3_en s), .int (s3_st s), .int (s3_tk s)]),
  .inr (.inl (jv 12 (s3_kd s))),
  .inr (.inl (jv 12 (s3_tu s))),
  .inl (6, [.ref 29, .ref 30, .ref 31, .ref 32, .int (mo_tf s), .int (mo_td s), .int (mo_fi s), .int (mo_sd s), .int (mo_st s), .int (mo_by s), .ref 33, .int (mo_pos s), .int (mo_tat s), .long (mo_tok s), .int (mo_dig s), .int (mo_num s), .int (mo_fa s), .int (mo_rm s), .ref 34, .ref 35, .ref 36, .ref 37, .ref 38, .ref 39, .ref 40, .ref 41, .ref 42]),
  .inr (.inl (jv 60 (mo_ball s))),
  .inr (.inr (.inl (jv 60 (mo_wall s)))),
  .inr (.inl (jv 12 (mo_told s))),
  .inr (.inl (jv 12 (mo_kind s))),
  .inr (.inl (jv 200 (mo_text s))),
  .inr (.inl (jv 36 (mo_read s))),
  .inr (.inl (jv 30 (mo_img s))),
  .inr (.inr (.inl (jv 2 (mo_isk s)))),
  .inr (.inl (jv 12 (mo_to s))),
  .inr (.inl (jv 12 (mo_on s))),
  .inr (.inl (jv 12 (mo_row s))),
  .inr (.inr (.inr (jv 12 (mo_now s)))),
  .inr (.inr (.inr (jv 12 (mo_then s)))),
  .inr (.inl (jv 12 (mo_fst s)))]
