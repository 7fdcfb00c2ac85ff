def fM_within (M : mMem) (x0 : Int32) (x1 : Int32) (x2 : Int32) : Option (Int32) :=
  if x0 < x1 then
    some 0
  else
    if x2 < x0 then
      some 0
    else
      some 1
def fM_isSieve (M : mMem) (x1 : Int32) : Option (Int32) :=
  if x1 < 0 then
    some 0
  else
    if (M 0 0) ≤ x1 then
      some 0
    else
      some 1
def fM_isStock (M : mMem) (x1 : Int32) : Option (Int32) :=
  if x1 < 0 then
    some 0
  else
    if (M 0 3) ≤ x1 then
      some 0
    else
      some 1
def fM_isBand (M : mMem) (x0 : Int32) (x1 : Int32) : Option (Int32) :=
  if x0 < 0 then
    some 0
  else
    if x1 < x0 then
      some 0
    else
      if 1000 < x1 then
        some 0
      else
        some 1
def fM_changed (M : mMem)  : Option (mMem) :=
  m_l (mu M 0 18 0) fun M_1 =>
  m_l (mu M_1 0 28 0) fun M_2 =>
  m_l (mu M_2 0 32 0) fun M_3 =>
  some M_3
def fM_sieve (M : mMem) (x1 : Int32) (x2 : Int32) : Option (Int32 × mMem) :=
  m_b1 (fM_isBand M x1 x2) fun r_1 =>
  if r_1 = 0 then
    some ((-1), M)
  else
    if (M 0 0) = 6 then
      some ((-1), M)
    else
      m_g (inb (M 0 0) 6) <|
      m_l (mu M 1 ((M 0 0).toNatClampNeg) x1) fun M_5 =>
      m_g (inb (M_5 0 0) 6) <|
      m_l (mu M_5 2 ((M_5 0 0).toNatClampNeg) x2) fun M_7 =>
      m_l (mu M_7 0 0 ((M_7 0 0) + 1)) fun M_8 =>
      m_b1 (fM_changed M_8) fun M_9 =>
      some ((M_9 0 0) - 1, M_9)
def fM_band (M : mMem) (x1 : Int32) (x2 : Int32) (x3 : Int32) : Option (Int32 × mMem) :=
  m_b1 (fM_isSieve M x1) fun r_1 =>
  if r_1 = 0 then
    some (0, M)
  else
    m_b1 (fM_isBand M x2 x3) fun r_3 =>
    if r_3 = 0 then
      some (0, M)
    else
      m_g (inb x1 6) <|
      m_l (mu M 1 (x1.toNatClampNeg) x2) fun M_5 =>
      m_l (mu M_5 2 (x1.toNatClampNeg) x3) fun M_6 =>
      m_b1 (fM_changed M_6) fun M_7 =>
      some (1, M_7)
def fM_stock (M : mMem) (x1 : Int32) (x2 : Int32) (x3 : Int32) (x4 : Int32) : Option (Int32 × mMem) :=
  m_b1 (fM_within M x1 0 100000) fun r_1 =>
  if r_1 = 0 then
    some ((-1), M)
  else
    if x2 < 0 then
      some ((-1), M)
    else
      if x3 < x2 then
        some ((-1), M)
      else
        if 100 < x3 then
          some ((-1), M)
        else
          if (M 0 3) = 4 then
            some ((-1), M)
          else
            m_g (inb (M 0 3) 4) <|
            m_l (mu M 3 ((M 0 3).toNatClampNeg) x1) fun M_8 =>
            m_g (inb (M_8 0 3) 4) <|
            m_l (mu M_8 4 ((M_8 0 3).toNatClampNeg) x2) fun M_10 =>
            m_g (inb (M_10 0 3) 4) <|
            m_l (mu M_10 5 ((M_10 0 3).toNatClampNeg) x3) fun M_12 =>
            m_g (inb (M_12 0 3) 4) <|
            m_l (mu M_12 6 ((M_12 0 3).toNatClampNeg) (vp_nar .boolean x4)) fun M_14 =>
            m_l (mu M_14 0 3 ((M_14 0 3) + 1)) fun M_15 =>
            m_b1 (fM_changed M_15) fun M_16 =>
            some ((M_16 0 3) - 1, M_16)
def fM_passes (M : mMem) (x1 : Int32) (x2 : Int32) (x3 : Int32) (x4 : Int32) : Option (Int32 × mMem) :=
  m_b1 (fM_isStock M x1) fun r_1 =>
  if r_1 = 0 then
    some (0, M)
  else
    m_b1 (fM_isSieve M x2) fun r_3 =>
    if r_3 = 0 then
      some (0, M)
    else
      m_b1 (fM_within M x3 0 1000) fun r_5 =>
      if r_5 = 0 then
        some (0, M)
      else
        m_b1 (fM_within M x4 0 300) fun r_7 =>
        if r_7 = 0 then
          some (0, M)
        else
          m_g (inb ((6 * x1) + x2) 24) <|
          m_l (mu M 8 (((6 * x1) + x2).toNatClampNeg) x3) fun M_10 =>
          m_l (mu M_10 9 (((6 * x1) + x2).toNatClampNeg) x4) fun M_11 =>
          m_b1 (fM_changed M_11) fun M_12 =>
          some (1, M_12)
def fM_cap (M : mMem) (x1 : Int32) : Option (Int32 × mMem) :=
  m_b1 (fM_within M x1 0 100) fun r_1 =>
  if r_1 = 0 then
    some ((-1), M)
  else
    m_l (M 0 11) fun x2_3 =>
    m_l (mu M 0 11 x1) fun M_4 =>
    m_b1 (fM_changed M_4) fun M_5 =>
    some (x2_3, M_5)
def fM_step_B22 (x1 : Int32) (M : mMem) (s0 : Int32) : Option (Int32 × mMem) :=
  if s0 = 0 then
    some ((-1), M)
  else
    m_l (M 0 12) fun x3_3 =>
    m_l (mu M 0 12 x1) fun M_4 =>
    m_b1 (fM_changed M_4) fun M_5 =>
    some (x3_3, M_5)
def fM_step_B21 (x1 : Int32) (M : mMem) : Option (Int32 × mMem) :=
  fM_step_B22 x1 M 0
def fM_step (M : mMem) (x1 : Int32) : Option (Int32 × mMem) :=
  if x1 ≤ 0 then
    fM_step_B21 x1 M
  else
    if 100 < x1 then
      fM_step_B21 x1 M
    else
      m_g (¬ x1 = 0) <|
      if (100 - 100 / x1 * x1) = 0 then
        fM_step_B22 x1 M 1
      else
        fM_step_B21 x1 M
def fM_unit (M : mMem) (x1 : Int32) : Option (Int32 × mMem) :=
  m_b1 (fM_within M x1 32 126) fun r_1 =>
  if r_1 = 0 then
    some (0, M)
  else
    if (M 0 13) = 60 then
      some (0, M)
    else
      m_g (inb (M 0 13) 60) <|
      m_l (mu M 10 ((M 0 13).toNatClampNeg) x1) fun M_5 =>
      m_l (mu M_5 0 13 ((M_5 0 13) + 1)) fun M_6 =>
      some (1, M_6)
def fM_isDigit (M : mMem)  : Option (Int32) :=
  if (M 0 13) ≤ (M 0 15) then
    some 0
  else
    m_g (inb (M 0 15) 60) <|
    if (M 10 (M 0 15).toNatClampNeg) < 48 then
      some 0
    else
      if 57 < (M 10 (M 0 15).toNatClampNeg) then
        some 0
      else
        some 1
def fM_number_B50 (M : mMem) (x1 : Int32) (x2 : Int32) : Option (Int32 × mMem) :=
  if x2 = 0 then
    some ((-1), M)
  else
    some (x1, M)
def fM_number_L4  : Nat → mMem → Int32 → Int32 → Option (Int32 × mMem)
  | 0, _, _, _ => none
  | n + 1, M, x1, x2 =>
    if 4 ≤ x2 then
      fM_number_B50 M x1 x2
    else
      m_b1 (fM_isDigit M) fun r_3 =>
      if r_3 = 0 then
        fM_number_B50 M x1 x2
      else
        m_g (inb (M 0 15) 60) <|
        m_l (((10 * x1) + (M 10 (M 0 15).toNatClampNeg)) - 48) fun x1_6 =>
        m_l (mu M 0 15 ((M 0 15) + 1)) fun M_7 =>
        m_l (x2 + 1) fun x2_8 =>
        (fM_number_L4 n) M_7 x1_6 x2_8
def fM_number (M : mMem)  : Option (Int32 × mMem) :=
  fM_number_L4 128 M 0 0
def fM_takes_B28 (M : mMem) : Option (Int32 × mMem) :=
  m_l (mu M 0 15 ((M 0 15) + 0)) fun M_2 =>
  some (0, M_2)
def fM_takes (M : mMem) (x1 : Int32) : Option (Int32 × mMem) :=
  if (M 0 13) ≤ (M 0 15) then
    fM_takes_B28 M
  else
    m_g (inb (M 0 15) 60) <|
    if (M 10 (M 0 15).toNatClampNeg) = x1 then
      m_l (mu M 0 15 ((M 0 15) + 1)) fun M_5 =>
      some (1, M_5)
    else
      fM_takes_B28 M
def fM_readBands_B128 (M : mMem) (x1 : Int32) : Option (Int32 × mMem) :=
  if (M 0 15) = (M 0 13) then
    some (x1, M)
  else
    some ((-1), M)
def fM_readBands_B68 (K9 : mMem → Int32 → Int32 → Option (Int32 × mMem)) (M : mMem) (x1 : Int32) (x3 : Int32) (x4 : Int32) (x5 : Int32) (s0 : Int32) : Option (Int32 × mMem) :=
  if x5 = 0 then
    some ((-1), M)
  else
    if 0 ≤ s0 then
      m_b1 (fM_isBand M x4 s0) fun r_12 =>
      if r_12 = 0 then
        m_l (mu M 0 15 x3) fun M_14 =>
        some ((-1), M_14)
      else
        m_g (inb x1 6) <|
        m_l (mu M 11 (x1.toNatClampNeg) x4) fun M_16 =>
        m_l (mu M_16 12 (x1.toNatClampNeg) s0) fun M_17 =>
        m_l (x1 + 1) fun x1_18 =>
        m_b2 (fM_takes M_17 44) fun r_19 M_20 =>
        K9 M_20 x1_18 r_19
    else
      some ((-1), M)
def fM_readBands_B53 (K9 : mMem → Int32 → Int32 → Option (Int32 × mMem)) (M : mMem) (x1 : Int32) (x3 : Int32) (x4 : Int32) (s0 : Int32) : Option (Int32 × mMem) :=
  if s0 = 0 then
    fM_readBands_B68 K9 M x1 x3 x4 s0 (-1)
  else
    m_b2 (fM_number M) fun r_21 M_22 =>
    fM_readBands_B68 K9 M_22 x1 x3 x4 s0 r_21
def fM_readBands_B52 (K9 : mMem → Int32 → Int32 → Option (Int32 × mMem)) (M : mMem) (x1 : Int32) (x3 : Int32) (x4 : Int32) : Option (Int32 × mMem) :=
  fM_readBands_B53 K9 M x1 x3 x4 0
def fM_readBands_L9  : Nat → mMem → Int32 → Int32 → Option (Int32 × mMem)
  | 0, _, _, _ => none
  | n + 1, M, x1, x2 =>
    if x2 = 0 then
      fM_readBands_B128 M x1
    else
      m_l (M 0 15) fun x3_4 =>
      if x1 = (M 0 0) then
        some ((-1), M)
      else
        m_b2 (fM_number M) fun r_6 M_7 =>
        if r_6 < 0 then
          fM_readBands_B52 (fM_readBands_L9 n) M_7 x1 x3_4 r_6
        else
          m_b2 (fM_takes M_7 45) fun r_23 M_24 =>
          if r_23 = 0 then
            fM_readBands_B52 (fM_readBands_L9 n) M_24 x1 x3_4 r_6
          else
            fM_readBands_B53 (fM_readBands_L9 n) M_24 x1 x3_4 r_6 1
def fM_readBands (M : mMem)  : Option (Int32 × mMem) :=
  m_l (mu M 0 15 0) fun M_1 =>
  fM_readBands_L9 128 M_1 0 1
def fM_read_B58 (M : mMem) (x1 : Int32) : Option (Int32 × mMem) :=
  m_b1 (fM_changed M) fun M_6 =>
  some (x1, M_6)
def fM_read_L23 (x1 : Int32) : Nat → mMem → Int32 → Option (Int32 × mMem)
  | 0, _, _ => none
  | n + 1, M, x2 =>
    if x1 ≤ x2 then
      fM_read_B58 M x1
    else
      m_g (inb x2 6) <|
      m_l (mu M 1 (x2.toNatClampNeg) (M 11 x2.toNatClampNeg)) fun M_8 =>
      m_l (mu M_8 2 (x2.toNatClampNeg) (M_8 12 x2.toNatClampNeg)) fun M_9 =>
      m_l (x2 + 1) fun x2_10 =>
      (fM_read_L23 x1 n) M_9 x2_10
def fM_read (M : mMem)  : Option (Int32 × mMem) :=
  m_b2 (fM_readBands M) fun r_1 M_2 =>
  m_l (mu M_2 0 13 0) fun M_3 =>
  if 0 ≤ r_1 then
    fM_read_L23 r_1 128 M_3 0
  else
    some ((-1) - (M_3 0 15), M_3)
def fM_lowerPart (M : mMem) (x1 : Int32) (x2 : Int32) : Option (Int32) :=
  m_g (inb ((6 * x1) + x2) 24) <|
  m_l ((M 8 ((6 * x1) + x2).toNatClampNeg) - (M 9 ((6 * x1) + x2).toNatClampNeg)) fun x3_2 =>
  if 0 ≤ x3_2 then
    some x3_2
  else
    some 0
def fM_upperPart (M : mMem) (x1 : Int32) (x2 : Int32) : Option (Int32) :=
  m_g (inb ((6 * x1) + x2) 24) <|
  m_l ((M 8 ((6 * x1) + x2).toNatClampNeg) + (M 9 ((6 * x1) + x2).toNatClampNeg)) fun x3_2 =>
  if x3_2 ≤ 1000 then
    some x3_2
  else
    some 1000
def fM_endOf_L6 (k1 : Nat) (x2 : Int32) (x3 : Int32) (M : mMem) : Nat → Int32 → Int32 → Option (Int32)
  | 0, _, _ => none
  | n + 1, x4, x5 =>
    if (M 0 3) ≤ x5 then
      some x4
    else
      if x3 = 0 then
        m_g (inb ((6 * x5) + x2) 24) <|
        m_l (M 8 ((6 * x5) + x2).toNatClampNeg) fun x6_4 =>
        m_g (inb x5 4) <|
        m_l (x4 + ((M k1 x5.toNatClampNeg) * x6_4)) fun x4_6 =>
        m_l (x5 + 1) fun x5_7 =>
        (fM_endOf_L6 k1 x2 x3 M n) x4_6 x5_7
      else
        if x3 = 1 then
          m_b1 (fM_lowerPart M x5 x2) fun r_9 =>
          m_g (inb x5 4) <|
          m_l (x4 + ((M k1 x5.toNatClampNeg) * r_9)) fun x4_11 =>
          m_l (x5 + 1) fun x5_12 =>
          (fM_endOf_L6 k1 x2 x3 M n) x4_11 x5_12
        else
          m_b1 (fM_upperPart M x5 x2) fun r_13 =>
          m_g (inb x5 4) <|
          m_l (x4 + ((M k1 x5.toNatClampNeg) * r_13)) fun x4_15 =>
          m_l (x5 + 1) fun x5_16 =>
          (fM_endOf_L6 k1 x2 x3 M n) x4_15 x5_16
def fM_endOf (M : mMem) (k1 : Nat) (x2 : Int32) (x3 : Int32) : Option (Int32) :=
  fM_endOf_L6 k1 x2 x3 M 128 0 0
def fM_missOf (M : mMem) (k1 : Nat) (x2 : Int32) (x3 : Int32) (x4 : Int32) : Option (Int32) :=
  m_b1 (fM_endOf M k1 x2 1) fun r_1 =>
  m_l ((100 * x3) - r_1) fun x5_2 =>
  m_b1 (fM_endOf M k1 x2 2) fun r_3 =>
  m_l (r_3 - (100 * x4)) fun x6_4 =>
  if x5_2 ≤ 0 then
    if x6_4 ≤ 0 then
      some (0 + 0)
    else
      some (0 + x6_4)
  else
    if x6_4 ≤ 0 then
      some (x5_2 + 0)
    else
      some (x5_2 + x6_4)
def fM_costOf_L4 (k1 : Nat) (M : mMem) : Nat → Int32 → Int32 → Option (Int32)
  | 0, _, _ => none
  | n + 1, x2, x3 =>
    if (M 0 3) ≤ x3 then
      some x2
    else
      m_g (inb x3 4) <|
      m_l (x2 + ((M k1 x3.toNatClampNeg) * (M 3 x3.toNatClampNeg))) fun x2_3 =>
      m_l (x3 + 1) fun x3_4 =>
      (fM_costOf_L4 k1 M n) x2_3 x3_4
def fM_costOf (M : mMem) (k1 : Nat) : Option (Int32) :=
  fM_costOf_L4 k1 M 128 0 0
def fM_isMix_B111 (M : mMem) (x1 : Int32) (x2 : Int32) : Option (Int32) :=
  if x1 = 100 then
    if (M 0 11) < x2 then
      some 0
    else
      some 1
  else
    some 0
def fM_isMix_B57 (K6 : Int32 → Int32 → Int32 → Option (Int32)) (M : mMem) (x1 : Int32) (x2 : Int32) (x3 : Int32) (s0 : Int32) : Option (Int32) :=
  if s0 = 0 then
    some 0
  else
    m_g (inb x3 4) <|
    m_l (x1 + (M 14 x3.toNatClampNeg)) fun x1_9 =>
    if (M 0 3) ≤ x3 then
      m_l (x2 + 0) fun x2_11 =>
      m_l (x3 + 1) fun x3_12 =>
      K6 x1_9 x2_11 x3_12
    else
      if (M 6 x3.toNatClampNeg) = 0 then
        m_l (x2 + 0) fun x2_14 =>
        m_l (x3 + 1) fun x3_15 =>
        K6 x1_9 x2_14 x3_15
      else
        m_l (x2 + (M 14 x3.toNatClampNeg)) fun x2_16 =>
        m_l (x3 + 1) fun x3_17 =>
        K6 x1_9 x2_16 x3_17
def fM_isMix_L6 (M : mMem) : Nat → Int32 → Int32 → Int32 → Option (Int32)
  | 0, _, _, _ => none
  | n + 1, x1, x2, x3 =>
    if 4 ≤ x3 then
      fM_isMix_B111 M x1 x2
    else
      if (M 0 3) ≤ x3 then
        m_g (inb x3 4) <|
        if (M 14 x3.toNatClampNeg) = 0 then
          fM_isMix_B57 (fM_isMix_L6 M n) M x1 x2 x3 1
        else
          fM_isMix_B57 (fM_isMix_L6 M n) M x1 x2 x3 0
      else
        m_g (inb x3 4) <|
        m_b1 (fM_within M (M 14 x3.toNatClampNeg) (M 4 x3.toNatClampNeg) (M 5 x3.toNatClampNeg)) fun r_19 =>
        fM_isMix_B57 (fM_isMix_L6 M n) M x1 x2 x3 r_19
def fM_isMix (M : mMem)  : Option (Int32) :=
  fM_isMix_L6 M 128 0 0 0
def fM_look_L223  : Nat → mMem → Int32 → Option (mMem)
  | 0, _, _ => none
  | n + 1, M, x8 =>
    if 4 ≤ x8 then
      some M
    else
      m_g (inb x8 4) <|
      m_l (mu M 15 (x8.toNatClampNeg) (M 14 x8.toNatClampNeg)) fun M_15 =>
      m_l (x8 + 1) fun x8_16 =>
      (fM_look_L223 n) M_15 x8_16
def fM_look_B198 (M : mMem) (x5 : Int32) (x6 : Int32) (x7 : Int32) : Option (mMem) :=
  if x7 = 0 then
    some M
  else
    m_l (mu M 0 22 1) fun M_10 =>
    m_l (mu M_10 0 23 x5) fun M_11 =>
    m_l (mu M_11 0 24 x6) fun M_12 =>
    fM_look_L223 128 M_12 0
def fM_look_B187 (x1 : Int32) (M : mMem) (x5 : Int32) (x6 : Int32) (s0 : Int32) : Option (mMem) :=
  if x1 = 0 then
    if x5 = 0 then
      fM_look_B198 M x5 x6 s0
    else
      some M
  else
    fM_look_B198 M x5 x6 s0
def fM_look_B182 (x1 : Int32) (M : mMem) (x5 : Int32) (x6 : Int32) : Option (mMem) :=
  fM_look_B187 x1 M x5 x6 1
def fM_look_B186 (x1 : Int32) (M : mMem) (x5 : Int32) (x6 : Int32) : Option (mMem) :=
  fM_look_B187 x1 M x5 x6 0
def fM_look_B173 (x1 : Int32) (M : mMem) (x5 : Int32) (x6 : Int32) : Option (mMem) :=
  if (M 0 24) ≤ x6 then
    fM_look_B186 x1 M x5 x6
  else
    fM_look_B182 x1 M x5 x6
def fM_look_B127 (x1 : Int32) (M : mMem) (x5 : Int32) (s1 : Int32) (s2 : Int32) : Option (mMem) :=
  m_l (mu M 0 26 (s1 + s2)) fun M_4 =>
  m_b1 (fM_costOf M_4 14) fun r_5 =>
  if (M_4 0 22) = 0 then
    fM_look_B182 x1 M_4 x5 r_5
  else
    if x1 = 0 then
      fM_look_B173 x1 M_4 x5 r_5
    else
      if x5 = (M_4 0 23) then
        fM_look_B173 x1 M_4 x5 r_5
      else
        if (M_4 0 23) ≤ x5 then
          fM_look_B186 x1 M_4 x5 r_5
        else
          fM_look_B182 x1 M_4 x5 r_5
def fM_look_B102 (x1 : Int32) (M : mMem) (x5 : Int32) : Option (mMem) :=
  m_l (mu M 0 25 ((M 0 25) + 1)) fun M_2 =>
  if x5 = 0 then
    fM_look_B127 x1 M_2 x5 (M_2 0 26) 1
  else
    fM_look_B127 x1 M_2 x5 (M_2 0 26) 0
def fM_look_B57 (K6 : mMem → Int32 → Int32 → Option (mMem)) (M : mMem) (x5 : Int32) (x6 : Int32) (s2 : Int32) (s3 : Int32) (s4 : Int32) : Option (mMem) :=
  m_b1 (fM_missOf M 14 s2 s3 s4) fun r_23 =>
  m_g (inb x6 6) <|
  if (M 16 x6.toNatClampNeg) = 0 then
    if r_23 = 0 then
      m_l (mu M 16 (x6.toNatClampNeg) 1) fun M_27 =>
      m_l (x5 + r_23) fun x5_28 =>
      m_l (x6 + 1) fun x6_29 =>
      K6 M_27 x5_28 x6_29
    else
      m_l (mu M 16 (x6.toNatClampNeg) 0) fun M_30 =>
      m_l (x5 + r_23) fun x5_31 =>
      m_l (x6 + 1) fun x6_32 =>
      K6 M_30 x5_31 x6_32
  else
    m_l (mu M 16 (x6.toNatClampNeg) 1) fun M_33 =>
    m_l (x5 + r_23) fun x5_34 =>
    m_l (x6 + 1) fun x6_35 =>
    K6 M_33 x5_34 x6_35
def fM_look_B39 (K6 : mMem → Int32 → Int32 → Option (mMem)) (x2 : Int32) (x4 : Int32) (M : mMem) (x5 : Int32) (x6 : Int32) (s2 : Int32) (s3 : Int32) : Option (mMem) :=
  if x6 = x2 then
    fM_look_B57 K6 M x5 x6 s2 s3 x4
  else
    m_g (inb x6 6) <|
    fM_look_B57 K6 M x5 x6 s2 s3 (M 2 x6.toNatClampNeg)
def fM_look_L6 (x1 : Int32) (x2 : Int32) (x3 : Int32) (x4 : Int32) : Nat → mMem → Int32 → Int32 → Option (mMem)
  | 0, _, _, _ => none
  | n + 1, M, x5, x6 =>
    if (M 0 0) ≤ x6 then
      fM_look_B102 x1 M x5
    else
      if x6 = x2 then
        fM_look_B39 (fM_look_L6 x1 x2 x3 x4 n) x2 x4 M x5 x6 x6 x3
      else
        m_g (inb x6 6) <|
        fM_look_B39 (fM_look_L6 x1 x2 x3 x4 n) x2 x4 M x5 x6 x6 (M 1 x6.toNatClampNeg)
def fM_look (M : mMem) (x1 : Int32) (x2 : Int32) (x3 : Int32) (x4 : Int32) : Option (mMem) :=
  fM_look_L6 x1 x2 x3 x4 128 M 0 0
def fM_goThrough_B197 (K42 : mMem → Int32 → Option (mMem)) (M : mMem) (x5 : Int32) : Option (mMem) :=
  m_l (x5 + (M 0 12)) fun x5_8 =>
  K42 M x5_8
def fM_goThrough_B185 (K60 : mMem → Int32 → Option (mMem)) (M : mMem) (x6 : Int32) : Option (mMem) :=
  m_l (x6 + (M 0 12)) fun x6_12 =>
  K60 M x6_12
def fM_goThrough_B156 (K94 : mMem → Int32 → Option (mMem)) (x1 : Int32) (x2 : Int32) (x3 : Int32) (x4 : Int32) (M : mMem) (x7 : Int32) (s2 : Int32) : Option (mMem) :=
  m_l (mu M 14 3 s2) fun M_16 =>
  m_b1 (fM_isMix M_16) fun r_17 =>
  if r_17 = 0 then
    m_l (x7 + (M_16 0 12)) fun x7_19 =>
    K94 M_16 x7_19
  else
    m_b1 (fM_look M_16 x1 x2 x3 x4) fun M_20 =>
    m_l (x7 + (M_20 0 12)) fun x7_21 =>
    K94 M_20 x7_21
def fM_goThrough_B120 (K94 : mMem → Int32 → Option (mMem)) (x1 : Int32) (x2 : Int32) (x3 : Int32) (x4 : Int32) (x5 : Int32) (x6 : Int32) (M : mMem) (x7 : Int32) : Option (mMem) :=
  m_l (mu M 14 2 x7) fun M_14 =>
  if (M_14 0 3) ≤ 3 then
    fM_goThrough_B156 K94 x1 x2 x3 x4 M_14 x7 0
  else
    fM_goThrough_B156 K94 x1 x2 x3 x4 M_14 x7 (((100 - x5) - x6) - x7)
def fM_goThrough_L94 (K60 : mMem → Int32 → Option (mMem)) (x1 : Int32) (x2 : Int32) (x3 : Int32) (x4 : Int32) (x5 : Int32) (x6 : Int32) : Nat → mMem → Int32 → Option (mMem)
  | 0, _, _ => none
  | n + 1, M, x7 =>
    if 100 < ((x5 + x6) + x7) then
      fM_goThrough_B185 K60 M x6
    else
      if x7 = 0 then
        fM_goThrough_B120 (fM_goThrough_L94 K60 x1 x2 x3 x4 x5 x6 n) x1 x2 x3 x4 x5 x6 M x7
      else
        if (M 0 3) ≤ 2 then
          fM_goThrough_B185 K60 M x6
        else
          fM_goThrough_B120 (fM_goThrough_L94 K60 x1 x2 x3 x4 x5 x6 n) x1 x2 x3 x4 x5 x6 M x7
def fM_goThrough_L60 (K42 : mMem → Int32 → Option (mMem)) (x1 : Int32) (x2 : Int32) (x3 : Int32) (x4 : Int32) (x5 : Int32) : Nat → mMem → Int32 → Option (mMem)
  | 0, _, _ => none
  | n + 1, M, x6 =>
    if 100 < (x5 + x6) then
      fM_goThrough_B197 K42 M x5
    else
      if x6 = 0 then
        m_l (mu M 14 1 x6) fun M_10 =>
        fM_goThrough_L94 (fM_goThrough_L60 K42 x1 x2 x3 x4 x5 n) x1 x2 x3 x4 x5 x6 128 M_10 0
      else
        if (M 0 3) ≤ 1 then
          fM_goThrough_B197 K42 M x5
        else
          m_l (mu M 14 1 x6) fun M_24 =>
          fM_goThrough_L94 (fM_goThrough_L60 K42 x1 x2 x3 x4 x5 n) x1 x2 x3 x4 x5 x6 128 M_24 0
def fM_goThrough_L42 (x1 : Int32) (x2 : Int32) (x3 : Int32) (x4 : Int32) : Nat → mMem → Int32 → Option (mMem)
  | 0, _, _ => none
  | n + 1, M, x5 =>
    if 100 < x5 then
      some M
    else
      m_l (mu M 14 0 x5) fun M_6 =>
      fM_goThrough_L60 (fM_goThrough_L42 x1 x2 x3 x4 n) x1 x2 x3 x4 x5 128 M_6 0
def fM_goThrough_L18 (x1 : Int32) (x2 : Int32) (x3 : Int32) (x4 : Int32) : Nat → mMem → Int32 → Option (mMem)
  | 0, _, _ => none
  | n + 1, M, x5 =>
    if 6 ≤ x5 then
      fM_goThrough_L42 x1 x2 x3 x4 128 M 0
    else
      m_g (inb x5 6) <|
      m_l (mu M 16 (x5.toNatClampNeg) 0) fun M_26 =>
      m_l (x5 + 1) fun x5_27 =>
      (fM_goThrough_L18 x1 x2 x3 x4 n) M_26 x5_27
def fM_goThrough (M : mMem) (x1 : Int32) (x2 : Int32) (x3 : Int32) (x4 : Int32) : Option (mMem) :=
  m_l (mu M 0 22 0) fun M_1 =>
  m_l (mu M_1 0 25 0) fun M_2 =>
  m_l (mu M_2 0 26 0) fun M_3 =>
  fM_goThrough_L18 x1 x2 x3 x4 128 M_3 0
def fM_take_B25 (M : mMem) : Option (mMem) :=
  m_l (mu M 0 18 1) fun M_2 =>
  m_l (mu M_2 0 28 0) fun M_3 =>
  some M_3
def fM_take_L2  : Nat → mMem → Int32 → Option (mMem)
  | 0, _, _ => none
  | n + 1, M, x1 =>
    if 4 ≤ x1 then
      fM_take_B25 M
    else
      m_g (inb x1 4) <|
      m_l (mu M 13 (x1.toNatClampNeg) (M 15 x1.toNatClampNeg)) fun M_5 =>
      m_l (x1 + 1) fun x1_6 =>
      (fM_take_L2 n) M_5 x1_6
def fM_take (M : mMem)  : Option (mMem) :=
  fM_take_L2 128 M 0
def fM_run (M : mMem)  : Option (Int32 × mMem) :=
  m_b1 (fM_goThrough M 0 (-1) 0 0) fun M_1 =>
  if (M_1 0 22) = 0 then
    some ((-1), M_1)
  else
    m_b1 (fM_take M_1) fun M_3 =>
    some (M_3 0 24, M_3)
def fM_near (M : mMem)  : Option (Int32 × mMem) :=
  m_b1 (fM_goThrough M 1 (-1) 0 0) fun M_1 =>
  if (M_1 0 22) = 0 then
    some ((-1), M_1)
  else
    m_b1 (fM_take M_1) fun M_3 =>
    some (M_3 0 23, M_3)
def fM_share (M : mMem) (x1 : Int32) : Option (Int32) :=
  if (M 0 18) = 0 then
    some (-1)
  else
    m_b1 (fM_isStock M x1) fun r_2 =>
    if r_2 = 0 then
      some (-1)
    else
      m_g (inb x1 4) <|
      some (M 13 x1.toNatClampNeg)
def fM_told (M : mMem) (x1 : Int32) (x2 : Int32) : Option (Int32) :=
  if (M 0 18) = 0 then
    some (-1)
  else
    m_b1 (fM_isSieve M x1) fun r_2 =>
    if r_2 = 0 then
      some (-1)
    else
      m_b1 (fM_within M x2 0 3) fun r_4 =>
      if r_4 = 0 then
        some (-1)
      else
        if x2 = 3 then
          m_g (inb x1 6) <|
          m_b1 (fM_missOf M 13 x1 (M 1 x1.toNatClampNeg) (M 2 x1.toNatClampNeg)) fun r_7 =>
          some r_7
        else
          m_b1 (fM_endOf M 13 x1 x2) fun r_8 =>
          some r_8
def fM_cost (M : mMem)  : Option (Int32) :=
  if (M 0 18) = 0 then
    some (-1)
  else
    m_b1 (fM_costOf M 13) fun r_2 =>
    some r_2
def fM_lonely_L12 (M : mMem) : Nat → Int32 → Int32 → Option (Int32 × mMem)
  | 0, _, _ => none
  | n + 1, x2, x3 =>
    if (M 0 0) ≤ x3 then
      some ((-1), M)
    else
      if x2 < 0 then
        some ((-1), M)
      else
        if (M 0 25) ≤ 0 then
          some ((-1), M)
        else
          m_g (inb x3 6) <|
          if (M 16 x3.toNatClampNeg) = 0 then
            if x2 = 0 then
              some (x3, M)
            else
              m_l (x2 + (-1)) fun x2_8 =>
              m_l (x3 + 1) fun x3_9 =>
              (fM_lonely_L12 M n) x2_8 x3_9
          else
            m_l (x3 + 1) fun x3_10 =>
            (fM_lonely_L12 M n) x2 x3_10
def fM_lonely (M : mMem) (x1 : Int32) : Option (Int32 × mMem) :=
  m_b1 (fM_goThrough M 1 (-1) 0 0) fun M_1 =>
  fM_lonely_L12 M_1 128 x1 0
def fM_worth_B131 (x1 : Int32) (M : mMem) (x4 : Int32) (x5 : Int32) (s0 : Int32) : Option (Int32 × mMem) :=
  m_b1 (fM_goThrough M 0 x1 x5 s0) fun M_12 =>
  some (x4 - (M_12 0 24), M_12)
def fM_worth_B104 (x1 : Int32) (x2 : Int32) (M : mMem) (x4 : Int32) (x5 : Int32) : Option (Int32 × mMem) :=
  if x2 = 0 then
    m_g (inb x1 6) <|
    fM_worth_B131 x1 M x4 x5 (M 2 x1.toNatClampNeg)
  else
    fM_worth_B131 x1 M x4 x5 1000
def fM_worth_B84 (x1 : Int32) (x2 : Int32) (x3 : Int32) (M : mMem) (x4 : Int32) (s0 : Int32) : Option (Int32 × mMem) :=
  if x2 = 0 then
    fM_worth_B104 x1 x2 M x4 s0
  else
    m_g (inb x1 6) <|
    if ((M 2 x1.toNatClampNeg) + x3) ≤ 1000 then
      fM_worth_B131 x1 M x4 s0 ((M 2 x1.toNatClampNeg) + x3)
    else
      fM_worth_B104 x1 x2 M x4 s0
def fM_worth_B59 (x1 : Int32) (x2 : Int32) (x3 : Int32) (M : mMem) (x4 : Int32) : Option (Int32 × mMem) :=
  if x2 = 0 then
    fM_worth_B84 x1 x2 x3 M x4 0
  else
    m_g (inb x1 6) <|
    fM_worth_B84 x1 x2 x3 M x4 (M 1 x1.toNatClampNeg)
def fM_worth (M : mMem) (x1 : Int32) (x2 : Int32) (x3 : Int32) : Option (Int32 × mMem) :=
  m_b1 (fM_isSieve M x1) fun r_1 =>
  if r_1 = 0 then
    some ((-1), M)
  else
    m_b1 (fM_within M x3 0 1000) fun r_3 =>
    if r_3 = 0 then
      some ((-1), M)
    else
      m_b1 (fM_goThrough M 0 (-1) 0 0) fun M_5 =>
      if (M_5 0 22) = 0 then
        some ((-1), M_5)
      else
        m_l (M_5 0 24) fun x4_7 =>
        if x2 = 0 then
          m_g (inb x1 6) <|
          if 0 ≤ ((M_5 1 x1.toNatClampNeg) - x3) then
            fM_worth_B84 x1 x2 x3 M_5 x4_7 ((M_5 1 x1.toNatClampNeg) - x3)
          else
            fM_worth_B59 x1 x2 x3 M_5 x4_7
        else
          fM_worth_B59 x1 x2 x3 M_5 x4_7
def fM_water (M : mMem) (x1 : Int32) (x2 : Int32) : Option (Int32 × mMem) :=
  m_b1 (fM_isStock M x1) fun r_1 =>
  if r_1 = 0 then
    some ((-1), M)
  else
    m_b1 (fM_within M x2 0 300) fun r_3 =>
    if r_3 = 0 then
      some ((-1), M)
    else
      m_g (inb x1 4) <|
      m_l (M 7 x1.toNatClampNeg) fun x3_5 =>
      m_l (mu M 7 (x1.toNatClampNeg) x2) fun M_6 =>
      some (x3_5, M_6)
def fM_batch_B128 (M : mMem) (x4 : Int32) : Option (Int32 × mMem) :=
  m_l (mu M 0 28 1) fun M_5 =>
  some (x4, M_5)
def fM_batch_L29 (x1 : Int32) : Nat → mMem → Int32 → Int32 → Int32 → Int32 → Option (Int32 × mMem)
  | 0, _, _, _, _, _ => none
  | n + 1, M, x2, x3, x4, x5 =>
    if (M 0 3) ≤ x5 then
      fM_batch_B128 M x4
    else
      m_g (inb x5 4) <|
      m_l (x2 + (M 13 x5.toNatClampNeg)) fun x2_7 =>
      m_l (((((x1).toInt64) * ((x2_7).toInt64)) / 100).toInt32) fun x6_8 =>
      m_l (mu M 17 (x5.toNatClampNeg) (x6_8 - x3)) fun M_9 =>
      m_l (((((M_9 17 x5.toNatClampNeg).toInt64) * ((M_9 7 x5.toNatClampNeg).toInt64)) / 1000).toInt32) fun x7_10 =>
      m_l (mu M_9 18 (x5.toNatClampNeg) ((M_9 17 x5.toNatClampNeg) + x7_10)) fun M_11 =>
      m_l (x4 + x7_10) fun x4_12 =>
      m_l (x5 + 1) fun x5_13 =>
      (fM_batch_L29 x1 n) M_11 x2_7 x6_8 x4_12 x5_13
def fM_batch (M : mMem) (x1 : Int32) : Option (Int32 × mMem) :=
  if (M 0 18) = 0 then
    some ((-1), M)
  else
    m_b1 (fM_within M x1 0 1000000) fun r_2 =>
    if r_2 = 0 then
      some ((-1), M)
    else
      fM_batch_L29 x1 128 M 0 0 0 0
def fM_mass (M : mMem) (x1 : Int32) (x2 : Int32) : Option (Int32) :=
  if (M 0 28) = 0 then
    some (-1)
  else
    m_b1 (fM_isStock M x1) fun r_2 =>
    if r_2 = 0 then
      some (-1)
    else
      if x2 = 0 then
        m_g (inb x1 4) <|
        some (M 17 x1.toNatClampNeg)
      else
        m_g (inb x1 4) <|
        some (M 18 x1.toNatClampNeg)
def fM_limit (M : mMem) (x1 : Int32) : Option (Int32 × mMem) :=
  m_b1 (fM_within M x1 1 1000) fun r_1 =>
  if r_1 = 0 then
    some ((-1), M)
  else
    m_l (M 0 31) fun x2_3 =>
    m_l (mu M 0 31 x1) fun M_4 =>
    some (x2_3, M_4)
def fM_driftsOff_B108 (M : mMem) (x4 : Int32) (x5 : Int32) : Option (Int32) :=
  if x4 = 5 then
    some 1
  else
    if x5 = 5 then
      some 1
    else
      some 0
def fM_driftsOff_B75 (K30 : Int32 → Int32 → Int32 → Int32 → Option (Int32)) (x2 : Int32) (M : mMem) (x3 : Int32) (x5 : Int32) (x6 : Int32) (s0 : Int32) (s1 : Int32) : Option (Int32) :=
  m_l (s0 + s1) fun x4_12 =>
  m_g (inb x6 100) <|
  if (x2 - 10) ≤ (M 20 x6.toNatClampNeg) then
    m_l (x5 + 0) fun x5_15 =>
    m_l (x6 + (-1)) fun x6_16 =>
    K30 x3 x4_12 x5_15 x6_16
  else
    m_l (x5 + 1) fun x5_17 =>
    m_l (x6 + (-1)) fun x6_18 =>
    K30 x3 x4_12 x5_17 x6_18
def fM_driftsOff_L30 (x1 : Int32) (M : mMem) (x2 : Int32) : Nat → Int32 → Int32 → Int32 → Int32 → Option (Int32)
  | 0, _, _, _, _ => none
  | n + 1, x3, x4, x5, x6 =>
    if x6 < 0 then
      fM_driftsOff_B108 M x4 x5
    else
      if 5 ≤ x3 then
        fM_driftsOff_B108 M x4 x5
      else
        m_g (inb x6 100) <|
        if (M 19 x6.toNatClampNeg) = x1 then
          m_l (x3 + 1) fun x3_10 =>
          if (M 20 x6.toNatClampNeg) ≤ (x2 + 10) then
            fM_driftsOff_B75 (fM_driftsOff_L30 x1 M x2 n) x2 M x3_10 x5 x6 x4 0
          else
            fM_driftsOff_B75 (fM_driftsOff_L30 x1 M x2 n) x2 M x3_10 x5 x6 x4 1
        else
          m_l (x6 + (-1)) fun x6_19 =>
          (fM_driftsOff_L30 x1 M x2 n) x3 x4 x5 x6_19
def fM_driftsOff (M : mMem) (x1 : Int32) : Option (Int32) :=
  m_b1 (fM_endOf M 13 x1 0) fun r_1 =>
  m_l (r_1 / 100) fun x2_2 =>
  m_l ((M 0 32) - 1) fun x6_3 =>
  fM_driftsOff_L30 x1 M x2_2 128 0 0 0 x6_3
def fM_test_B178 (M : mMem) (x5 : Int32) : Option (Int32 × mMem) :=
  if x5 ≤ (M 0 31) then
    m_g (inb ((M 0 32) - 1) 100) <|
    m_l (mu M 22 (((M 0 32) - 1).toNatClampNeg) 0) fun M_22 =>
    some (0, M_22)
  else
    m_g (inb ((M 0 32) - 1) 100) <|
    m_l (mu M 22 (((M 0 32) - 1).toNatClampNeg) 3) fun M_24 =>
    some (3, M_24)
def fM_test_B133 (x1 : Int32) (x2 : Int32) (M : mMem) (s0 : Int32) : Option (Int32 × mMem) :=
  m_g (inb x1 6) <|
  if x2 < (M 1 x1.toNatClampNeg) then
    m_g (inb ((M 0 32) - 1) 100) <|
    m_l (mu M 22 (((M 0 32) - 1).toNatClampNeg) 1) fun M_17 =>
    some (1, M_17)
  else
    if x2 ≤ (M 2 x1.toNatClampNeg) then
      if (M 0 18) = 0 then
        fM_test_B178 M s0
      else
        m_b1 (fM_driftsOff M x1) fun r_25 =>
        if r_25 = 0 then
          fM_test_B178 M s0
        else
          m_g (inb ((M 0 32) - 1) 100) <|
          m_l (mu M 22 (((M 0 32) - 1).toNatClampNeg) 2) fun M_28 =>
          some (2, M_28)
    else
      m_g (inb ((M 0 32) - 1) 100) <|
      m_l (mu M 22 (((M 0 32) - 1).toNatClampNeg) 1) fun M_30 =>
      some (1, M_30)
def fM_test_B76 (x1 : Int32) (x2 : Int32) (M : mMem) (x3 : Int32) (x4 : Int32) : Option (Int32 × mMem) :=
  m_g (inb (M 0 32) 100) <|
  m_l (mu M 19 ((M 0 32).toNatClampNeg) x1) fun M_8 =>
  m_g (inb (M_8 0 32) 100) <|
  m_l (mu M_8 20 ((M_8 0 32).toNatClampNeg) x2) fun M_10 =>
  m_g (inb (M_10 0 32) 100) <|
  m_l (mu M_10 21 ((M_10 0 32).toNatClampNeg) x3) fun M_12 =>
  m_l (mu M_12 0 32 ((M_12 0 32) + 1)) fun M_13 =>
  if x2 ≤ x4 then
    fM_test_B133 x1 x2 M_13 (x4 - x2)
  else
    fM_test_B133 x1 x2 M_13 (x2 - x4)
def fM_test_L38 (x1 : Int32) (x2 : Int32) (M : mMem) : Nat → Int32 → Int32 → Int32 → Option (Int32 × mMem)
  | 0, _, _, _ => none
  | n + 1, x3, x4, x5 =>
    if (M 0 32) ≤ x5 then
      fM_test_B76 x1 x2 M x3 x4
    else
      m_g (inb x5 100) <|
      if (M 19 x5.toNatClampNeg) = x1 then
        m_l (x3 + 1) fun x3_33 =>
        m_l (M 20 x5.toNatClampNeg) fun x4_34 =>
        m_l (x5 + 1) fun x5_35 =>
        (fM_test_L38 x1 x2 M n) x3_33 x4_34 x5_35
      else
        m_l (x5 + 1) fun x5_36 =>
        (fM_test_L38 x1 x2 M n) x3 x4 x5_36
def fM_test (M : mMem) (x1 : Int32) (x2 : Int32) : Option (Int32 × mMem) :=
  m_b1 (fM_isSieve M x1) fun r_1 =>
  if r_1 = 0 then
    some ((-1), M)
  else
    m_b1 (fM_within M x2 0 1000) fun r_3 =>
    if r_3 = 0 then
      some ((-1), M)
    else
      if (M 0 32) = 100 then
        some ((-1), M)
      else
        fM_test_L38 x1 x2 M 128 0 x2 0
def fM_fired_L16 (x2 : Int32) (M : mMem) : Nat → Int32 → Int32 → Option (Int32)
  | 0, _, _ => none
  | n + 1, x3, x4 =>
    if (M 0 32) ≤ x4 then
      some (-1)
    else
      if x3 < 0 then
        some (-1)
      else
        m_g (inb x4 100) <|
        if (M 22 x4.toNatClampNeg) ≤ 0 then
          m_l (x4 + 1) fun x4_7 =>
          (fM_fired_L16 x2 M n) x3 x4_7
        else
          if x3 = 0 then
            if x2 = 0 then
              some (M 19 x4.toNatClampNeg)
            else
              if x2 = 1 then
                some (M 21 x4.toNatClampNeg)
              else
                some (M 22 x4.toNatClampNeg)
          else
            m_l (x3 + (-1)) fun x3_11 =>
            m_l (x4 + 1) fun x4_12 =>
            (fM_fired_L16 x2 M n) x3_11 x4_12
def fM_fired (M : mMem) (x1 : Int32) (x2 : Int32) : Option (Int32) :=
  m_b1 (fM_within M x2 0 2) fun r_1 =>
  if r_1 = 0 then
    some (-1)
  else
    fM_fired_L16 x2 M 128 x1 0
def fM_count_L57 (M : mMem) : Nat → Int32 → Int32 → Option (Int32 × mMem)
  | 0, _, _ => none
  | n + 1, x2, x3 =>
    if (M 0 32) ≤ x3 then
      some (x2, M)
    else
      m_g (inb x3 100) <|
      if (M 22 x3.toNatClampNeg) ≤ 0 then
        m_l (x2 + 0) fun x2_8 =>
        m_l (x3 + 1) fun x3_9 =>
        (fM_count_L57 M n) x2_8 x3_9
      else
        m_l (x2 + 1) fun x2_10 =>
        m_l (x3 + 1) fun x3_11 =>
        (fM_count_L57 M n) x2_10 x3_11
def fM_count (M : mMem) (x1 : Int32) : Option (Int32 × mMem) :=
  if x1 = 0 then
    some (M 0 0, M)
  else
  if x1 = 1 then
    some (M 0 3, M)
  else
  if x1 = 2 then
    some (M 0 32, M)
  else
  if x1 = 3 then
    fM_count_L57 M 128 0 0
  else
  if x1 = 4 then
    m_b1 (fM_goThrough M 1 (-1) 0 0) fun M_13 =>
    some (M_13 0 25, M_13)
  else
  if x1 = 5 then
    m_b1 (fM_goThrough M 1 (-1) 0 0) fun M_15 =>
    some (M_15 0 26, M_15)
  else
  some ((-1), M)
