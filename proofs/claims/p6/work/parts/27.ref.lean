/-! The reference as a tuple of numbers and rows. -/
abbrev Mm : Type := Nat × Nat × Nat × Nat × Nat × Nat × Nat × Nat × Nat × (Nat → Nat) × (Nat → Nat) × (Nat → Nat) × (Nat → Nat) × (Nat → Nat) × (Nat → Nat) × (Nat → Nat) × (Nat → Nat) × (Nat → Nat) × (Nat → Nat) × (Nat → Nat) × (Nat → Nat) × (Nat → Nat) × (Nat → Nat) × (Nat → Nat) × (Nat → Nat) × (Nat → Nat)
abbrev m_th (s : Mm) : Nat := s.1
abbrev m_ct (s : Mm) : Nat := s.2.1
abbrev m_md (s : Mm) : Nat := s.2.2.1
abbrev m_nd (s : Mm) : Nat := s.2.2.2.1
abbrev m_td (s : Mm) : Nat := s.2.2.2.2.1
abbrev m_at (s : Mm) : Nat := s.2.2.2.2.2.1
abbrev m_dp (s : Mm) : Nat := s.2.2.2.2.2.2.1
abbrev m_wr (s : Mm) : Nat := s.2.2.2.2.2.2.2.1
abbrev m_rw (s : Mm) : Nat := s.2.2.2.2.2.2.2.2.1
abbrev m_kd (s : Mm) : Nat → Nat := s.2.2.2.2.2.2.2.2.2.1
abbrev m_wh (s : Mm) : Nat → Nat := s.2.2.2.2.2.2.2.2.2.2.1
abbrev m_tk (s : Mm) : Nat → Nat := s.2.2.2.2.2.2.2.2.2.2.2.1
abbrev m_pa (s : Mm) : Nat → Nat := s.2.2.2.2.2.2.2.2.2.2.2.2.1
abbrev m_fi (s : Mm) : Nat → Nat := s.2.2.2.2.2.2.2.2.2.2.2.2.2.1
abbrev m_la (s : Mm) : Nat → Nat := s.2.2.2.2.2.2.2.2.2.2.2.2.2.2.1
abbrev m_nx (s : Mm) : Nat → Nat := s.2.2.2.2.2.2.2.2.2.2.2.2.2.2.2.1
abbrev m_nu (s : Mm) : Nat → Nat := s.2.2.2.2.2.2.2.2.2.2.2.2.2.2.2.2.1
abbrev m_by (s : Mm) : Nat → Nat := s.2.2.2.2.2.2.2.2.2.2.2.2.2.2.2.2.2.1
abbrev m_ins (s : Mm) : Nat → Nat := s.2.2.2.2.2.2.2.2.2.2.2.2.2.2.2.2.2.2.1
abbrev m_dz (s : Mm) : Nat → Nat := s.2.2.2.2.2.2.2.2.2.2.2.2.2.2.2.2.2.2.2.1
abbrev m_no (s : Mm) : Nat → Nat := s.2.2.2.2.2.2.2.2.2.2.2.2.2.2.2.2.2.2.2.2.1
abbrev m_tr (s : Mm) : Nat → Nat := s.2.2.2.2.2.2.2.2.2.2.2.2.2.2.2.2.2.2.2.2.2.1
abbrev m_nm (s : Mm) : Nat → Nat := s.2.2.2.2.2.2.2.2.2.2.2.2.2.2.2.2.2.2.2.2.2.2.1
abbrev m_pl (s : Mm) : Nat → Nat := s.2.2.2.2.2.2.2.2.2.2.2.2.2.2.2.2.2.2.2.2.2.2.2.1
abbrev m_pe (s : Mm) : Nat → Nat := s.2.2.2.2.2.2.2.2.2.2.2.2.2.2.2.2.2.2.2.2.2.2.2.2.1
abbrev m_en (s : Mm) : Nat → Nat := s.2.2.2.2.2.2.2.2.2.2.2.2.2.2.2.2.2.2.2.2.2.2.2.2.2
abbrev w_th (s : Mm) (v : Nat) : Mm := (v, s.2)
abbrev w_ct (s : Mm) (v : Nat) : Mm := (s.1, v, s.2.2)
abbrev w_md (s : Mm) (v : Nat) : Mm := (s.1, s.2.1, v, s.2.2.2)
abbrev w_nd (s : Mm) (v : Nat) : Mm := (s.1, s.2.1, s.2.2.1, v, s.2.2.2.2)
abbrev w_td (s : Mm) (v : Nat) : Mm := (s.1, s.2.1, s.2.2.1, s.2.2.2.1, v, s.2.2.2.2.2)
abbrev w_at (s : Mm) (v : Nat) : Mm := (s.1, s.2.1, s.2.2.1, s.2.2.2.1, s.2.2.2.2.1, v, s.2.2.2.2.2.2)
abbrev w_dp (s : Mm) (v : Nat) : Mm := (s.1, s.2.1, s.2.2.1, s.2.2.2.1, s.2.2.2.2.1, s.2.2.2.2.2.1, v, s.2.2.2.2.2.2.2)
abbrev w_wr (s : Mm) (v : Nat) : Mm := (s.1, s.2.1, s.2.2.1, s.2.2.2.1, s.2.2.2.2.1, s.2.2.2.2.2.1, s.2.2.2.2.2.2.1, v, s.2.2.2.2.2.2.2.2)
abbrev w_rw (s : Mm) (v : Nat) : Mm := (s.1, s.2.1, s.2.2.1, s.2.2.2.1, s.2.2.2.2.1, s.2.2.2.2.2.1, s.2.2.2.2.2.2.1, s.2.2.2.2.2.2.2.1, v, s.2.2.2.2.2.2.2.2.2)
abbrev w_kd (s : Mm) (v : Nat → Nat) : Mm := (s.1, s.2.1, s.2.2.1, s.2.2.2.1, s.2.2.2.2.1, s.2.2.2.2.2.1, s.2.2.2.2.2.2.1, s.2.2.2.2.2.2.2.1, s.2.2.2.2.2.2.2.2.1, v, s.2.2.2.2.2.2.2.2.2.2)
abbrev w_wh (s : Mm) (v : Nat → Nat) : Mm := (s.1, s.2.1, s.2.2.1, s.2.2.2.1, s.2.2.2.2.1, s.2.2.2.2.2.1, s.2.2.2.2.2.2.1, s.2.2.2.2.2.2.2.1, s.2.2.2.2.2.2.2.2.1, s.2.2.2.2.2.2.2.2.2.1, v, s.2.2.2.2.2.2.2.2.2.2.2)
abbrev w_tk (s : Mm) (v : Nat → Nat) : Mm := (s.1, s.2.1, s.2.2.1, s.2.2.2.1, s.2.2.2.2.1, s.2.2.2.2.2.1, s.2.2.2.2.2.2.1, s.2.2.2.2.2.2.2.1, s.2.2.2.2.2.2.2.2.1, s.2.2.2.2.2.2.2.2.2.1, s.2.2.2.2.2.2.2.2.2.2.1, v, s.2.2.2.2.2.2.2.2.2.2.2.2)
abbrev w_pa (s : Mm) (v : Nat → Nat) : Mm := (s.1, s.2.1, s.2.2.1, s.2.2.2.1, s.2.2.2.2.1, s.2.2.2.2.2.1, s.2.2.2.2.2.2.1, s.2.2.2.2.2.2.2.1, s.2.2.2.2.2.2.2.2.1, s.2.2.2.2.2.2.2.2.2.1, s.2.2.2.2.2.2.2.2.2.2.1, s.2.2.2.2.2.2.2.2.2.2.2.1, v, s.2.2.2.2.2.2.2.2.2.2.2.2.2)
abbrev w_fi (s : Mm) (v : Nat → Nat) : Mm := (s.1, s.2.1, s.2.2.1, s.2.2.2.1, s.2.2.2.2.1, s.2.2.2.2.2.1, s.2.2.2.2.2.2.1, s.2.2.2.2.2.2.2.1, s.2.2.2.2.2.2.2.2.1, s.2.2.2.2.2.2.2.2.2.1, s.2.2.2.2.2.2.2.2.2.2.1, s.2.2.2.2.2.2.2.2.2.2.2.1, s.2.2.2.2.2.2.2.2.2.2.2.2.1, v, s.2.2.2.2.2.2.2.2.2.2.2.2.2.2)
abbrev w_la (s : Mm) (v : Nat → Nat) : Mm := (s.1, s.2.1, s.2.2.1, s.2.2.2.1, s.2.2.2.2.1, s.2.2.2.2.2.1, s.2.2.2.2.2.2.1, s.2.2.2.2.2.2.2.1, s.2.2.2.2.2.2.2.2.1, s.2.2.2.2.2.2.2.2.2.1, s.2.2.2.2.2.2.2.2.2.2.1, s.2.2.2.2.2.2.2.2.2.2.2.1, s.2.2.2.2.2.2.2.2.2.2.2.2.1, s.2.2.2.2.2.2.2.2.2.2.2.2.2.1, v, s.2.2.2.2.2.2.2.2.2.2.2.2.2.2.2)
abbrev w_nx (s : Mm) (v : Nat → Nat) : Mm := (s.1, s.2.1, s.2.2.1, s.2.2.2.1, s.2.2.2.2.1, s.2.2.2.2.2.1, s.2.2.2.2.2.2.1, s.2.2.2.2.2.2.2.1, s.2.2.2.2.2.2.2.2.1, s.2.2.2.2.2.2.2.2.2.1, s.2.2.2.2.2.2.2.2.2.2.1, s.2.2.2.2.2.2.2.2.2.2.2.1, s.2.2.2.2.2.2.2.2.2.2.2.2.1, s.2.2.2.2.2.2.2.2.2.2.2.2.2.1, s.2.2.2.2.2.2.2.2.2.2.2.2.2.2.1, v, s.2.2.2.2.2.2.2.2.2.2.2.2.2.2.2.2)
abbrev w_nu (s : Mm) (v : Nat → Nat) : Mm := (s.1, s.2.1, s.2.2.1, s.2.2.2.1, s.2.2.2.2.1, s.2.2.2.2.2.1, s.2.2.2.2.2.2.1, s.2.2.2.2.2.2.2.1, s.2.2.2.2.2.2.2.2.1, s.2.2.2.2.2.2.2.2.2.1, s.2.2.2.2.2.2.2.2.2.2.1, s.2.2.2.2.2.2.2.2.2.2.2.1, s.2.2.2.2.2.2.2.2.2.2.2.2.1, s.2.2.2.2.2.2.2.2.2.2.2.2.2.1, s.2.2.2.2.2.2.2.2.2.2.2.2.2.2.1, s.2.2.2.2.2.2.2.2.2.2.2.2.2.2.2.1, v, s.2.2.2.2.2.2.2.2.2.2.2.2.2.2.2.2.2)
abbrev w_by (s : Mm) (v : Nat → Nat) : Mm := (s.1, s.2.1, s.2.2.1, s.2.2.2.1, s.2.2.2.2.1, s.2.2.2.2.2.1, s.2.2.2.2.2.2.1, s.2.2.2.2.2.2.2.1, s.2.2.2.2.2.2.2.2.1, s.2.2.2.2.2.2.2.2.2.1, s.2.2.2.2.2.2.2.2.2.2.1, s.2.2.2.2.2.2.2.2.2.2.2.1, s.2.2.2.2.2.2.2.2.2.2.2.2.1, s.2.2.2.2.2.2.2.2.2.2.2.2.2.1, s.2.2.2.2.2.2.2.2.2.2.2.2.2.2.1, s.2.2.2.2.2.2.2.2.2.2.2.2.2.2.2.1, s.2.2.2.2.2.2.2.2.2.2.2.2.2.2.2.2.1, v, s.2.2.2.2.2.2.2.2.2.2.2.2.2.2.2.2.2.2)
abbrev w_ins (s : Mm) (v : Nat → Nat) : Mm := (s.1, s.2.1, s.2.2.1, s.2.2.2.1, s.2.2.2.2.1, s.2.2.2.2.2.1, s.2.2.2.2.2.2.1, s.2.2.2.2.2.2.2.1, s.2.2.2.2.2.2.2.2.1, s.2.2.2.2.2.2.2.2.2.1, s.2.2.2.2.2.2.2.2.2.2.1, s.2.2.2.2.2.2.2.2.2.2.2.1, s.2.2.2.2.2.2.2.2.2.2.2.2.1, s.2.2.2.2.2.2.2.2.2.2.2.2.2.1, s.2.2.2.2.2.2.2.2.2.2.2.2.2.2.1, s.2.2.2.2.2.2.2.2.2.2.2.2.2.2.2.1, s.2.2.2.2.2.2.2.2.2.2.2.2.2.2.2.2.1, s.2.2.2.2.2.2.2.2.2.2.2.2.2.2.2.2.2.1, v, s.2.2.2.2.2.2.2.2.2.2.2.2.2.2.2.2.2.2.2)
abbrev w_dz (s : Mm) (v : Nat → Nat) : Mm := (s.1, s.2.1, s.2.2.1, s.2.2.2.1, s.2.2.2.2.1, s.2.2.2.2.2.1, s.2.2.2.2.2.2.1, s.2.2.2.2.2.2.2.1, s.2.2.2.2.2.2.2.2.1, s.2.2.2.2.2.2.2.2.2.1, s.2.2.2.2.2.2.2.2.2.2.1, s.2.2.2.2.2.2.2.2.2.2.2.1, s.2.2.2.2.2.2.2.2.2.2.2.2.1, s.2.2.2.2.2.2.2.2.2.2.2.2.2.1, s.2.2.2.2.2.2.2.2.2.2.2.2.2.2.1, s.2.2.2.2.2.2.2.2.2.2.2.2.2.2.2.1, s.2.2.2.2.2.2.2.2.2.2.2.2.2.2.2.2.1, s.2.2.2.2.2.2.2.2.2.2.2.2.2.2.2.2.2.1, s.2.2.2.2.2.2.2.2.2.2.2.2.2.2.2.2.2.2.1, v, s.2.2.2.2.2.2.2.2.2.2.2.2.2.2.2.2.2.2.2.2)
abbrev w_no (s : Mm) (v : Nat → Nat) : Mm := (s.1, s.2.1, s.2.2.1, s.2.2.2.1, s.2.2.2.2.1, s.2.2.2.2.2.1, s.2.2.2.2.2.2.1, s.2.2.2.2.2.2.2.1, s.2.2.2.2.2.2.2.2.1, s.2.2.2.2.2.2.2.2.2.1, s.2.2.2.2.2.2.2.2.2.2.1, s.2.2.2.2.2.2.2.2.2.2.2.1, s.2.2.2.2.2.2.2.2.2.2.2.2.1, s.2.2.2.2.2.2.2.2.2.2.2.2.2.1, s.2.2.2.2.2.2.2.2.2.2.2.2.2.2.1, s.2.2.2.2.2.2.2.2.2.2.2.2.2.2.2.1, s.2.2.2.2.2.2.2.2.2.2.2.2.2.2.2.2.1, s.2.2.2.2.2.2.2.2.2.2.2.2.2.2.2.2.2.1, s.2.2.2.2.2.2.2.2.2.2.2.2.2.2.2.2.2.2.1, s.2.2.2.2.2.2.2.2.2.2.2.2.2.2.2.2.2.2.2.1, v, s.2.2.2.2.2.2.2.2.2.2.2.2.2.2.2.2.2.2.2.2.2)
abbrev w_tr (s : Mm) (v : Nat → Nat) : Mm := (s.1, s.2.1, s.2.2.1, s.2.2.2.1, s.2.2.2.2.1, s.2.2.2.2.2.1, s.2.2.2.2.2.2.1, s.2.2.2.2.2.2.2.1, s.2.2.2.2.2.2.2.2.1, s.2.2.2.2.2.2.2.2.2.1, s.2.2.2.2.2.2.2.2.2.2.1, s.2.2.2.2.2.2.2.2.2.2.2.1, s.2.2.2.2.2.2.2.2.2.2.2.2.1, s.2.2.2.2.2.2.2.2.2.2.2.2.2.1, s.2.2.2.2.2.2.2.2.2.2.2.2.2.2.1, s.2.2.2.2.2.2.2.2.2.2.2.2.2.2.2.1, s.2.2.2.2.2.2.2.2.2.2.2.2.2.2.2.2.1, s.2.2.2.2.2.2.2.2.2.2.2.2.2.2.2.2.2.1, s.2.2.2.2.2.2.2.2.2.2.2.2.2.2.2.2.2.2.1, s.2.2.2.2.2.2.2.2.2.2.2.2.2.2.2.2.2.2.2.1, s.2.2.2.2.2.2.2.2.2.2.2.2.2.2.2.2.2.2.2.2.1, v, s.2.2.2.2.2.2.2.2.2.2.2.2.2.2.2.2.2.2.2.2.2.2)
abbrev w_nm (s : Mm) (v : Nat → Nat) : Mm := (s.1, s.2.1, s.2.2.1, s.2.2.2.1, s.2.2.2.2.1, s.2.2.2.2.2.1, s.2.2.2.2.2.2.1, s.2.2.2.2.2.2.2.1, s.2.2.2.2.2.2.2.2.1, s.2.2.2.2.2.2.2.2.2.1, s.2.2.2.2.2.2.2.2.2.2.1, s.2.2.2.2.2.2.2.2.2.2.2.1, s.2.2.2.2.2.2.2.2.2.2.2.2.1, s.2.2.2.2.2.2.2.2.2.2.2.2.2.1, s.2.2.2.2.2.2.2.2.2.2.2.2.2.2.1, s.2.2.2.2.2.2.2.2.2.2.2.2.2.2.2.1, s.2.2.2.2.2.2.2.2.2.2.2.2.2.2.2.2.1, s.2.2.2.2.2.2.2.2.2.2.2.2.2.2.2.2.2.1, s.2.2.2.2.2.2.2.2.2.2.2.2.2.2.2.2.2.2.1, s.2.2.2.2.2.2.2.2.2.2.2.2.2.2.2.2.2.2.2.1, s.2.2.2.2.2.2.2.2.2.2.2.2.2.2.2.2.2.2.2.2.1, s.2.2.2.2.2.2.2.2.2.2.2.2.2.2.2.2.2.2.2.2.2.1, v, s.2.2.2.2.2.2.2.2.2.2.2.2.2.2.2.2.2.2.2.2.2.2.2)
abbrev w_pl (s : Mm) (v : Nat → Nat) : Mm := (s.1, s.2.1, s.2.2.1, s.2.2.2.1, s.2.2.2.2.1, s.2.2.2.2.2.1, s.2.2.2.2.2.2.1, s.2.2.2.2.2.2.2.1, s.2.2.2.2.2.2.2.2.1, s.2.2.2.2.2.2.2.2.2.1, s.2.2.2.2.2.2.2.2.2.2.1, s.2.2.2.2.2.2.2.2.2.2.2.1, s.2.2.2.2.2.2.2.2.2.2.2.2.1, s.2.2.2.2.2.2.2.2.2.2.2.2.2.1, s.2.2.2.2.2.2.2.2.2.2.2.2.2.2.1, s.2.2.2.2.2.2.2.2.2.2.2.2.2.2.2.1, s.2.2.2.2.2.2.2.2.2.2.2.2.2.2.2.2.1, s.2.2.2.2.2.2.2.2.2.2.2.2.2.2.2.2.2.1, s.2.2.2.2.2.2.2.2.2.2.2.2.2.2.2.2.2.2.1, s.2.2.2.2.2.2.2.2.2.2.2.2.2.2.2.2.2.2.2.1, s.2.2.2.2.2.2.2.2.2.2.2.2.2.2.2.2.2.2.2.2.1, s.2.2.2.2.2.2.2.2.2.2.2.2.2.2.2.2.2.2.2.2.2.1, s.2.2.2.2.2.2.2.2.2.2.2.2.2.2.2.2.2.2.2.2.2.2.1, v, s.2.2.2.2.2.2.2.2.2.2.2.2.2.2.2.2.2.2.2.2.2.2.2.2)
abbrev w_pe (s : Mm) (v : Nat → Nat) : Mm := (s.1, s.2.1, s.2.2.1, s.2.2.2.1, s.2.2.2.2.1, s.2.2.2.2.2.1, s.2.2.2.2.2.2.1, s.2.2.2.2.2.2.2.1, s.2.2.2.2.2.2.2.2.1, s.2.2.2.2.2.2.2.2.2.1, s.2.2.2.2.2.2.2.2.2.2.1, s.2.2.2.2.2.2.2.2.2.2.2.1, s.2.2.2.2.2.2.2.2.2.2.2.2.1, s.2.2.2.2.2.2.2.2.2.2.2.2.2.1, s.2.2.2.2.2.2.2.2.2.2.2.2.2.2.1, s.2.2.2.2.2.2.2.2.2.2.2.2.2.2.2.1, s.2.2.2.2.2.2.2.2.2.2.2.2.2.2.2.2.1, s.2.2.2.2.2.2.2.2.2.2.2.2.2.2.2.2.2.1, s.2.2.2.2.2.2.2.2.2.2.2.2.2.2.2.2.2.2.1, s.2.2.2.2.2.2.2.2.2.2.2.2.2.2.2.2.2.2.2.1, s.2.2.2.2.2.2.2.2.2.2.2.2.2.2.2.2.2.2.2.2.1, s.2.2.2.2.2.2.2.2.2.2.2.2.2.2.2.2.2.2.2.2.2.1, s.2.2.2.2.2.2.2.2.2.2.2.2.2.2.2.2.2.2.2.2.2.2.1, s.2.2.2.2.2.2.2.2.2.2.2.2.2.2.2.2.2.2.2.2.2.2.2.1, v, s.2.2.2.2.2.2.2.2.2.2.2.2.2.2.2.2.2.2.2.2.2.2.2.2.2)
abbrev w_en (s : Mm) (v : Nat → Nat) : Mm := (s.1, s.2.1, s.2.2.1, s.2.2.2.1, s.2.2.2.2.1, s.2.2.2.2.2.1, s.2.2.2.2.2.2.1, s.2.2.2.2.2.2.2.1, s.2.2.2.2.2.2.2.2.1, s.2.2.2.2.2.2.2.2.2.1, s.2.2.2.2.2.2.2.2.2.2.1, s.2.2.2.2.2.2.2.2.2.2.2.1, s.2.2.2.2.2.2.2.2.2.2.2.2.1, s.2.2.2.2.2.2.2.2.2.2.2.2.2.1, s.2.2.2.2.2.2.2.2.2.2.2.2.2.2.1, s.2.2.2.2.2.2.2.2.2.2.2.2.2.2.2.1, s.2.2.2.2.2.2.2.2.2.2.2.2.2.2.2.2.1, s.2.2.2.2.2.2.2.2.2.2.2.2.2.2.2.2.2.1, s.2.2.2.2.2.2.2.2.2.2.2.2.2.2.2.2.2.2.1, s.2.2.2.2.2.2.2.2.2.2.2.2.2.2.2.2.2.2.2.1, s.2.2.2.2.2.2.2.2.2.2.2.2.2.2.2.2.2.2.2.2.1, s.2.2.2.2.2.2.2.2.2.2.2.2.2.2.2.2.2.2.2.2.2.1, s.2.2.2.2.2.2.2.2.2.2.2.2.2.2.2.2.2.2.2.2.2.2.1, s.2.2.2.2.2.2.2.2.2.2.2.2.2.2.2.2.2.2.2.2.2.2.2.1, s.2.2.2.2.2.2.2.2.2.2.2.2.2.2.2.2.2.2.2.2.2.2.2.2.1, v)
def sL (cs : List mm_E) : Nat → Option mm_E := fun k => if k < 10 then none else cs[k - 10]?
theorem hpL_get {h0 : mm_H} {cs : List mm_E} {k : Nat} {e : mm_E} (hl : k < h0.length) (hk : 10 ≤ k) (he : cs[k - 10]? = some e) : (hp h0 (sL cs))[k]? = some e := hp_get hl (by unfold sL; rw [if_neg (by omega)]; exact he)
theorem hpL_set {h0 : mm_H} {cs : List mm_E} {k : Nat} {e : mm_E} (hk : 10 ≤ k) (hl : k - 10 < cs.length) : (hp h0 (sL cs)).set k e = hp h0 (sL (cs.set (k - 10) e)) := hp_set (fun j => by
  unfold sL
  by_cases hj : j = k
  · subst hj
    rw [if_neg (by omega), if_pos rfl, List.getElem?_set, if_pos rfl, if_pos hl]
  · rw [if_neg hj]
    by_cases h10 : j < 10
    · rw [if_pos h10, if_pos h10]
    · rw [if_neg h10, if_neg h10, List.getElem?_set, if_neg (by omega)])
def cM (s : Mm) : List mm_E := [.inr (4, [.int (nI (m_th s)), .int (nI (m_ct s)), .ref 11, .int (nI (m_md s)), .int (nI (m_nd s)), .ref 12, .ref 13, .ref 14, .ref 15, .ref 16, .ref 17, .ref 18, .ref 19, .ref 20, .int (nI (m_td s)), .ref 21, .ref 22, .ref 23, .int (nI (m_at s)), .int (nI (m_dp s)), .int (oI (m_wr s)), .int (nI (m_rw s)), .ref 24, .ref 25, .ref 26, .ref 27]), .inl (1, 16385, .inl (rN (m_kd s))), .inl (0, 65536, .inl (rN (m_wh s))), .inl (0, 65536, .inl (rN (m_tk s))), .inl (0, 65536, .inl (rO (m_pa s))), .inl (0, 65536, .inl (rO (m_fi s))), .inl (0, 65536, .inl (rO (m_la s))), .inl (0, 65536, .inl (rO (m_nx s))), .inl (0, 65536, .inl (rN (m_nu s))), .inl (0, 65536, .inl (rN (m_by s))), .inl (0, 65536, .inl (rN (m_ins s))), .inl (0, 4096, .inl (rN (m_dz s))), .inl (0, 4096, .inl (rN (m_no s))), .inl (0, 4096, .inl (rN (m_tr s))), .inl (2, 64, .inl (rN (m_nm s))), .inl (2, 64, .inl (rN (m_pl s))), .inl (0, 64, .inl (rN (m_pe s))), .inl (2, 64, .inl (rN (m_en s)))]
def TM (h0 : mm_H) (s : Mm) : mm_H := hp h0 (sL (cM s))
/-- the heap is long enough -/
def Mg (h0 : mm_H) : Prop := 28 ≤ h0.length
section GM
variable {h0 : mm_H} {s : Mm}
theorem gM_m (G : Mg h0) : (TM h0 s)[10]? = some (.inr (4, [.int (nI (m_th s)), .int (nI (m_ct s)), .ref 11, .int (nI (m_md s)), .int (nI (m_nd s)), .ref 12, .ref 13, .ref 14, .ref 15, .ref 16, .ref 17, .ref 18, .ref 19, .ref 20, .int (nI (m_td s)), .ref 21, .ref 22, .ref 23, .int (nI (m_at s)), .int (nI (m_dp s)), .int (oI (m_wr s)), .int (nI (m_rw s)), .ref 24, .ref 25, .ref 26, .ref 27])) := hpL_get (by unfold Mg at G; omega) (by decide) rfl
theorem gM_kd (G : Mg h0) : (TM h0 s)[11]? = some (.inl (1, 16385, .inl (rN (m_kd s)))) := hpL_get (by unfold Mg at G; omega) (by decide) rfl
theorem gM_wh (G : Mg h0) : (TM h0 s)[12]? = some (.inl (0, 65536, .inl (rN (m_wh s)))) := hpL_get (by unfold Mg at G; omega) (by decide) rfl
theorem gM_tk (G : Mg h0) : (TM h0 s)[13]? = some (.inl (0, 65536, .inl (rN (m_tk s)))) := hpL_get (by unfold Mg at G; omega) (by decide) rfl
theorem gM_pa (G : Mg h0) : (TM h0 s)[14]? = some (.inl (0, 65536, .inl (rO (m_pa s)))) := hpL_get (by unfold Mg at G; omega) (by decide) rfl
theorem gM_fi (G : Mg h0) : (TM h0 s)[15]? = some (.inl (0, 65536, .inl (rO (m_fi s)))) := hpL_get (by unfold Mg at G; omega) (by decide) rfl
theorem gM_la (G : Mg h0) : (TM h0 s)[16]? = some (.inl (0, 65536, .inl (rO (m_la s)))) := hpL_get (by unfold Mg at G; omega) (by decide) rfl
theorem gM_nx (G : Mg h0) : (TM h0 s)[17]? = some (.inl (0, 65536, .inl (rO (m_nx s)))) := hpL_get (by unfold Mg at G; omega) (by decide) rfl
theorem gM_nu (G : Mg h0) : (TM h0 s)[18]? = some (.inl (0, 65536, .inl (rN (m_nu s)))) := hpL_get (by unfold Mg at G; omega) (by decide) rfl
theorem gM_by (G : Mg h0) : (TM h0 s)[19]? = some (.inl (0, 65536, .inl (rN (m_by s)))) := hpL_get (by unfold Mg at G; omega) (by decide) rfl
theorem gM_ins (G : Mg h0) : (TM h0 s)[20]? = some (.inl (0, 65536, .inl (rN (m_ins s)))) := hpL_get (by unfold Mg at G; omega) (by decide) rfl
theorem gM_dz (G : Mg h0) : (TM h0 s)[21]? = some (.inl (0, 4096, .inl (rN (m_dz s)))) := hpL_get (by unfold Mg at G; omega) (by decide) rfl
theorem gM_no (G : Mg h0) : (TM h0 s)[22]? = some (.inl (0, 4096, .inl (rN (m_no s)))) := hpL_get (by unfold Mg at G; omega) (by decide) rfl
theorem gM_tr (G : Mg h0) : (TM h0 s)[23]? = some (.inl (0, 4096, .inl (rN (m_tr s)))) := hpL_get (by unfold Mg at G; omega) (by decide) rfl
theorem gM_nm (G : Mg h0) : (TM h0 s)[24]? = some (.inl (2, 64, .inl (rN (m_nm s)))) := hpL_get (by unfold Mg at G; omega) (by decide) rfl
theorem gM_pl (G : Mg h0) : (TM h0 s)[25]? = some (.inl (2, 64, .inl (rN (m_pl s)))) := hpL_get (by unfold Mg at G; omega) (by decide) rfl
theorem gM_pe (G : Mg h0) : (TM h0 s)[26]? = some (.inl (0, 64, .inl (rN (m_pe s)))) := hpL_get (by unfold Mg at G; omega) (by decide) rfl
theorem gM_en (G : Mg h0) : (TM h0 s)[27]? = some (.inl (2, 64, .inl (rN (m_en s)))) := hpL_get (by unfold Mg at G; omega) (by decide) rfl
end GM
theorem nI_and (a b : Nat) : nI a &&& nI b = nI (a &&& b) := by
  apply Int32.toBitVec_inj.mp
  show (BitVec.ofNat 32 a) &&& (BitVec.ofNat 32 b) = BitVec.ofNat 32 (a &&& b)
  exact (BitVec.ofNat_and).symm
theorem nI_or (a b : Nat) : nI a ||| nI b = nI (a ||| b) := by
  apply Int32.toBitVec_inj.mp
  show (BitVec.ofNat 32 a) ||| (BitVec.ofNat 32 b) = BitVec.ofNat 32 (a ||| b)
  exact (BitVec.ofNat_or).symm
theorem nI_shl8 (a : Nat) : nI a <<< (nI 8 &&& 31) = nI (a * 256) := by
  apply Int32.toBitVec_inj.mp
  have h8 : (nI 8 &&& 31 : Int32) = 8 := by decide
  rw [h8]
  show (BitVec.ofNat 32 a) <<< ((8#32).smod 32) = BitVec.ofNat 32 (a * 256)
  have : (8#32).smod 32 = 8#32 := by decide
  rw [this]
  apply BitVec.eq_of_toNat_eq
  rw [BitVec.shiftLeft_eq', BitVec.toNat_shiftLeft, BitVec.toNat_ofNat, BitVec.toNat_ofNat]
  show (a % 2 ^ 32) <<< 8 % 2 ^ 32 = a * 256 % 2 ^ 32
  rw [Nat.shiftLeft_eq]
  omega
theorem nI_shr8 {a : Nat} (h : a < 2147483648) : nI a >>> (nI 8 &&& 31) = nI (a / 256) := by
  apply Int32.toInt_inj.mp
  have h8 : (nI 8 &&& 31 : Int32) = 8 := by decide
  rw [h8, nI_toInt (by omega)]
  have h2 : (nI a >>> 8).toInt = (nI a).toInt >>> 8 := by
    show ((BitVec.ofNat 32 a).sshiftRight' ((8#32).smod 32)).toInt = _
    have : (8#32).smod 32 = 8#32 := by decide
    rw [this, BitVec.sshiftRight_eq', BitVec.toInt_sshiftRight]
    rfl
  rw [h2, nI_toInt h]
  show ((a : Int) >>> 8) = _
  rw [Int.shiftRight_eq_div_pow]
  norm_cast
/-- a state by a name of its own -/
def st1 {σ : Type} (s : σ) (k : σ → Rs σ) : Rs σ := k s
theorem e_st {σ : Type} {e : Nat → Option Value} {T : σ → mm_H} {xs : Nat → Int32} {L d mi pc : Nat} {ls : mm_L} {st : List Value} {s : σ} {k : σ → Rs σ} (hN : st1 s k ≠ none) (K : ∀ s2, k s2 ≠ none → Ev xs L d mi pc ls st (T s2) 0 0 (ou e T (k s2))) : Ev xs L d mi pc ls st (T s) 0 0 (ou e T (st1 s k)) := K s hN
/-- without the bit of 2 -/
def c2 (a : Nat) : Nat := if a &&& 2 = 0 then a else a - 2
theorem nI_c2' : ∀ q, q < 64 → ∀ r, r < 64 → nI (64 * q + r) &&& (-3) = nI (c2 (64 * q + r)) := by decide +kernel
theorem nI_c2 (a : Nat) (h : a < 4096) : nI a &&& (-3) = nI (c2 a) := by
  have := nI_c2' (a / 64) (by omega) (a % 64) (by omega)
  rwa [Nat.div_add_mod] at this
section EVM
variable {xs : Nat → Int32} {L d mi pc : Nat} {ls : mm_L} {st : List Value} {h : mm_H} {c z : Nat} {o : mm_R} {own nm : String} {cc : ByteArray} {nL : Nat} {rt : Option FieldType} {a b q n i v : Nat} {f : Nat → Nat}
theorem e_iandN (hm : Is mi own cc nL rt nm) (hd : decode cc pc = .ok (.iand, 1)) (K : Ev xs L d mi (pc + 1) ls (.int (nI (a &&& b)) :: st) h c z o) : Ev xs L d mi pc ls (.int (nI b) :: .int (nI a) :: st) h c z o := e_iand hm hd (by rw [nI_and]; exact K)
theorem e_iorN (hm : Is mi own cc nL rt nm) (hd : decode cc pc = .ok (.ior, 1)) (K : Ev xs L d mi (pc + 1) ls (.int (nI (a ||| b)) :: st) h c z o) : Ev xs L d mi pc ls (.int (nI b) :: .int (nI a) :: st) h c z o := e_ior hm hd (by rw [nI_or]; exact K)
theorem e_iandC (ha : a < 4096) (hm : Is mi own cc nL rt nm) (hd : decode cc pc = .ok (.iand, 1)) (K : Ev xs L d mi (pc + 1) ls (.int (nI (c2 a)) :: st) h c z o) : Ev xs L d mi pc ls (.int (-3) :: .int (nI a) :: st) h c z o := e_iand hm hd (by rw [nI_c2 a ha]; exact K)
theorem e_ishl8 (hm : Is mi own cc nL rt nm) (hd : decode cc pc = .ok (.ishl, 1)) (K : Ev xs L d mi (pc + 1) ls (.int (nI (a * 256)) :: st) h c z o) : Ev xs L d mi pc ls (.int (nI 8) :: .int (nI a) :: st) h c z o := e_ishl hm hd (by rw [nI_shl8]; exact K)
theorem e_ishr8 (ha : a < 2147483648) (hm : Is mi own cc nL rt nm) (hd : decode cc pc = .ok (.ishr, 1)) (K : Ev xs L d mi (pc + 1) ls (.int (nI (a / 256)) :: st) h c z o) : Ev xs L d mi pc ls (.int (nI 8) :: .int (nI a) :: st) h c z o := e_ishr hm hd (by rw [nI_shr8 ha]; exact K)
theorem up_rZ {f : Nat → Nat} {i v : Nat} (hb : v < 2) (hi : i < 2147483648) : upd (rN f) (nI i).toNatClampNeg (vp_nar (mm_ty 2) (nI v)) = rN (upN f i v) := by
  rw [nI_clamp hi]
  funext j
  unfold rN upN upd
  by_cases h : j = i
  · rw [if_pos h, if_pos h]
    have : v = 0 ∨ v = 1 := by omega
    rcases this with rfl | rfl <;> decide +kernel
  · rw [if_neg h, if_neg h]
theorem e_astZ {h' : mm_H} (hb : v < 2) (hi : i < n) (hn : n < 2147483648) (hm : Is mi own cc nL rt nm) (hd : decode cc pc = .ok (.bastore, 1)) (hc : h[q]? = some (.inl (2, n, .inl (rN f)))) (hh : h.set q (.inl (2, n, .inl (rN (upN f i v)))) = h') (K : Ev xs L d mi (pc + 1) ls st h' c z o) : Ev xs L d mi pc ls (.int (nI v) :: .int (nI i) :: .ref q :: st) h c z o :=
  e_iast (Or.inr ⟨rfl, Or.inr rfl⟩) hm hd hc (nI_in hi hn) (by rw [up_rZ hb (by omega)]; exact hh) K
end EVM
