def fG_mayBeBand (M : mMem) (x0 : Int32) (x1 : Int32) : Option (Int32) :=
  if x0 < 0 then
    some 0
  else
    if x1 < x0 then
      some 0
    else
      if 1000 < x1 then
        some 0
      else
        some 1
def fP_setBand (M : mMem) (x1 : Int32) (x2 : Int32) (x3 : Int32) : Option (mMem) :=
  m_g (inb x1 6) <|
  m_l (mu M 2 (x1.toNatClampNeg) x2) fun M_1 =>
  m_l (mu M_1 3 (x1.toNatClampNeg) x3) fun M_2 =>
  some M_2
def fL_clear_L12  : Nat → mMem → Int32 → Option (mMem)
  | 0, _, _ => none
  | n + 1, M, x1 =>
    if 6 ≤ x1 then
      some M
    else
      m_g (inb x1 6) <|
      m_l (mu M 72 (x1.toNatClampNeg) 0) fun M_5 =>
      m_l (x1 + 1) fun x1_6 =>
      (fL_clear_L12 n) M_5 x1_6
def fL_clear (M : mMem)  : Option (mMem) :=
  m_l (mu M 71 0 0) fun M_1 =>
  m_l (mu M_1 71 3 0) fun M_2 =>
  fL_clear_L12 128 M_2 0
def fG_forget (M : mMem)  : Option (mMem) :=
  m_l (mu M 66 0 0) fun M_1 =>
  m_l (mu M_1 68 0 0) fun M_2 =>
  m_b1 (fL_clear M_2) fun M_3 =>
  m_l (mu M_3 0 7 0) fun M_4 =>
  some M_4
def fG_sieve (M : mMem) (x1 : Int32) (x2 : Int32) : Option (Int32 × mMem) :=
  m_b1 (fG_mayBeBand M x1 x2) fun r_1 =>
  if r_1 = 0 then
    some ((-1), M)
  else
    if (M 1 0) < 6 then
      m_l (M 1 0) fun x3_4 =>
      m_l (mu M 1 0 ((M 1 0) + 1)) fun M_5 =>
      m_b1 (fP_setBand M_5 x3_4 x1 x2) fun M_6 =>
      m_b1 (fG_forget M_6) fun M_7 =>
      some (x3_4, M_7)
    else
      some ((-1), M)
def fP_hasSieve (M : mMem) (x1 : Int32) : Option (Int32) :=
  if x1 < 0 then
    some 0
  else
    if (M 1 0) ≤ x1 then
      some 0
    else
      some 1
def fG_band (M : mMem) (x1 : Int32) (x2 : Int32) (x3 : Int32) : Option (Int32 × mMem) :=
  m_b1 (fP_hasSieve M x1) fun r_1 =>
  if r_1 = 0 then
    some (0, M)
  else
    m_b1 (fG_mayBeBand M x2 x3) fun r_3 =>
    if r_3 = 0 then
      some (0, M)
    else
      m_b1 (fP_setBand M x1 x2 x3) fun M_5 =>
      m_b1 (fG_forget M_5) fun M_6 =>
      some (1, M_6)
def fG_within (M : mMem) (x0 : Int32) (x1 : Int32) (x2 : Int32) : Option (Int32) :=
  if x0 < x1 then
    some 0
  else
    if x2 < x0 then
      some 0
    else
      some 1
def fP_setStock (M : mMem) (x1 : Int32) (x2 : Int32) (x3 : Int32) (x4 : Int32) (x5 : Int32) : Option (mMem) :=
  m_g (inb x1 4) <|
  m_l (mu M 4 (x1.toNatClampNeg) x2) fun M_1 =>
  m_l (mu M_1 5 (x1.toNatClampNeg) x3) fun M_2 =>
  m_l (mu M_2 6 (x1.toNatClampNeg) x4) fun M_3 =>
  m_l (mu M_3 7 (x1.toNatClampNeg) (vp_nar .boolean x5)) fun M_4 =>
  some M_4
def fG_stock_B21 (x1 : Int32) (x2 : Int32) (x3 : Int32) (x4 : Int32) (M : mMem) (s0 : Int32) : Option (Int32 × mMem) :=
  m_b1 (fG_within M x1 0 100000) fun r_2 =>
  if r_2 = 0 then
    some ((-1), M)
  else
    if s0 = 0 then
      some ((-1), M)
    else
      if (M 1 1) < 4 then
        m_l (M 1 1) fun x6_6 =>
        m_l (mu M 1 1 ((M 1 1) + 1)) fun M_7 =>
        m_b1 (fP_setStock M_7 x6_6 x1 x2 x3 x4) fun M_8 =>
        m_b1 (fG_forget M_8) fun M_9 =>
        some (x6_6, M_9)
      else
        some ((-1), M)
def fG_stock_B20 (x1 : Int32) (x2 : Int32) (x3 : Int32) (x4 : Int32) (M : mMem) : Option (Int32 × mMem) :=
  fG_stock_B21 x1 x2 x3 x4 M 0
def fG_stock (M : mMem) (x1 : Int32) (x2 : Int32) (x3 : Int32) (x4 : Int32) : Option (Int32 × mMem) :=
  if x2 < 0 then
    fG_stock_B20 x1 x2 x3 x4 M
  else
    if x3 < x2 then
      fG_stock_B20 x1 x2 x3 x4 M
    else
      if 100 < x3 then
        fG_stock_B20 x1 x2 x3 x4 M
      else
        fG_stock_B21 x1 x2 x3 x4 M 1
def fP_hasStock (M : mMem) (x1 : Int32) : Option (Int32) :=
  if x1 < 0 then
    some 0
  else
    if (M 1 1) ≤ x1 then
      some 0
    else
      some 1
def fP_setPassing (M : mMem) (x1 : Int32) (x2 : Int32) (x3 : Int32) (x4 : Int32) : Option (mMem) :=
  m_g (inb x1 4) <|
  m_g (inb x2 6) <|
  m_l (mu M (9 + 1 + x1.toNatClampNeg) (x2.toNatClampNeg) x3) fun M_1 =>
  m_l (mu M_1 (14 + 1 + x1.toNatClampNeg) (x2.toNatClampNeg) (if 0 < (x3 - x4) then (x3 - x4) else 0)) fun M_2 =>
  m_l (mu M_2 (19 + 1 + x1.toNatClampNeg) (x2.toNatClampNeg) (if (x3 + x4) < 1000 then (x3 + x4) else 1000)) fun M_3 =>
  some M_3
def fG_passes (M : mMem) (x1 : Int32) (x2 : Int32) (x3 : Int32) (x4 : Int32) : Option (Int32 × mMem) :=
  m_b1 (fP_hasStock M x1) fun r_1 =>
  if r_1 = 0 then
    some (0, M)
  else
    m_b1 (fP_hasSieve M x2) fun r_3 =>
    if r_3 = 0 then
      some (0, M)
    else
      m_b1 (fG_within M x3 0 1000) fun r_5 =>
      if r_5 = 0 then
        some (0, M)
      else
        m_b1 (fG_within M x4 0 300) fun r_7 =>
        if r_7 = 0 then
          some (0, M)
        else
          m_b1 (fP_setPassing M x1 x2 x3 x4) fun M_9 =>
          m_b1 (fG_forget M_9) fun M_10 =>
          some (1, M_10)
def fG_cap (M : mMem) (x1 : Int32) : Option (Int32 × mMem) :=
  m_b1 (fG_within M x1 0 100) fun r_1 =>
  if r_1 = 0 then
    some ((-1), M)
  else
    m_l (M 1 2) fun x2_3 =>
    m_l (mu M 1 2 x1) fun M_4 =>
    m_b1 (fG_forget M_4) fun M_5 =>
    some (x2_3, M_5)
def fG_step (M : mMem) (x1 : Int32) : Option (Int32 × mMem) :=
  if x1 < 1 then
    some ((-1), M)
  else
    m_g (¬ x1 = 0) <|
    if (100 - 100 / x1 * x1) = 0 then
      m_l (M 1 3) fun x2_4 =>
      m_l (mu M 1 3 x1) fun M_5 =>
      m_b1 (fG_forget M_5) fun M_6 =>
      some (x2_4, M_6)
    else
      some ((-1), M)
def fT_collect (M : mMem) (x1 : Int32) : Option (Int32 × mMem) :=
  m_b1 (fG_within M x1 32 126) fun r_1 =>
  if r_1 = 0 then
    some (0, M)
  else
    if (M 62 3) < 60 then
      m_g (inb (M 62 3) 60) <|
      m_l (mu M 65 ((M 62 3).toNatClampNeg) x1) fun M_5 =>
      m_l (mu M_5 62 3 ((M_5 62 3) + 1)) fun M_6 =>
      some (1, M_6)
    else
      some (0, M)
def fG_unit (M : mMem) (x1 : Int32) : Option (Int32 × mMem) :=
  m_b2 (fT_collect M x1) fun r_1 M_2 =>
  m_g (vp_nar .boolean r_1 = r_1) <|
  some (r_1, M_2)
def fT_parseNumber_L4  : Nat → mMem → Int32 → Int32 → Option (Int32 × mMem)
  | 0, _, _, _ => none
  | n + 1, M, x1, x2 =>
    if 4 ≤ x2 then
      some (x1, M)
    else
      if (M 62 3) ≤ (M 62 4) then
        some (x1, M)
      else
        m_g (inb (M 62 4) 60) <|
        m_b1 (fG_within M (M 65 (M 62 4).toNatClampNeg) 48 57) fun r_4 =>
        if r_4 = 0 then
          some (x1, M)
        else
          m_l ((((if 0 < x1 then x1 else 0) * 10) + (M 65 (M 62 4).toNatClampNeg)) - 48) fun x1_6 =>
          m_l (mu M 62 4 ((M 62 4) + 1)) fun M_7 =>
          m_l (x2 + 1) fun x2_8 =>
          (fT_parseNumber_L4 n) M_7 x1_6 x2_8
def fT_parseNumber (M : mMem)  : Option (Int32 × mMem) :=
  fT_parseNumber_L4 128 M (-1) 0
def fT_skip (M : mMem) (x1 : Int32) : Option (Int32 × mMem) :=
  if (M 62 3) ≤ (M 62 4) then
    some (0, M)
  else
    m_g (inb (M 62 4) 60) <|
    if (M 65 (M 62 4).toNatClampNeg) = x1 then
      m_l (mu M 62 4 ((M 62 4) + 1)) fun M_4 =>
      some (1, M_4)
    else
      some (0, M)
def fT_parseBand (M : mMem) (x1 : Int32) (x2 : Int32) : Option (Int32 × mMem) :=
  m_l (M 62 4) fun x3_1 =>
  if x2 ≤ x1 then
    some (x3_1, M)
  else
    if x1 < 6 then
      m_b2 (fT_parseNumber M) fun r_4 M_5 =>
      if r_4 < 0 then
        some (M_5 62 4, M_5)
      else
        m_b2 (fT_skip M_5 45) fun r_7 M_8 =>
        if r_7 = 0 then
          some (M_8 62 4, M_8)
        else
          m_b2 (fT_parseNumber M_8) fun r_10 M_11 =>
          if 0 ≤ r_10 then
            m_b1 (fG_mayBeBand M_11 r_4 r_10) fun r_13 =>
            if r_13 = 0 then
              some (x3_1, M_11)
            else
              m_g (inb x1 6) <|
              m_l (mu M_11 63 (x1.toNatClampNeg) r_4) fun M_15 =>
              m_l (mu M_15 64 (x1.toNatClampNeg) r_10) fun M_16 =>
              some ((-1), M_16)
          else
            some (M_11 62 4, M_11)
    else
      some (x3_1, M)
def fT_parse_B61 (M : mMem) : Option (Int32 × mMem) :=
  some ((-1) - (M 62 4), M)
def fT_parse_L7 (x1 : Int32) : Nat → mMem → Int32 → Option (Int32 × mMem)
  | 0, _, _ => none
  | n + 1, M, x2 =>
    if 6 < x2 then
      fT_parse_B61 M
    else
      m_b2 (fT_parseBand M x2 x1) fun r_3 M_4 =>
      if r_3 < 0 then
        if (M_4 62 4) < (M_4 62 3) then
          m_b2 (fT_skip M_4 44) fun r_7 M_8 =>
          if r_7 = 0 then
            fT_parse_B61 M_8
          else
            m_l (x2 + 1) fun x2_10 =>
            (fT_parse_L7 x1 n) M_8 x2_10
        else
          some (x2 + 1, M_4)
      else
        some ((-1) - r_3, M_4)
def fT_parse (M : mMem) (x1 : Int32) : Option (Int32 × mMem) :=
  m_l (mu M 62 4 0) fun M_1 =>
  fT_parse_L7 x1 128 M_1 0
def fT_clear (M : mMem)  : Option (mMem) :=
  m_l (mu M 62 3 0) fun M_1 =>
  some M_1
def fG_read_B73 (M : mMem) (x1 : Int32) : Option (Int32 × mMem) :=
  m_b1 (fG_forget M) fun M_6 =>
  some (x1, M_6)
def fG_read_L30 (x1 : Int32) : Nat → mMem → Int32 → Option (Int32 × mMem)
  | 0, _, _ => none
  | n + 1, M, x2 =>
    if x1 ≤ x2 then
      fG_read_B73 M x1
    else
      if 6 ≤ x2 then
        fG_read_B73 M x1
      else
        m_g (inb x2 6) <|
        m_b1 (fP_setBand M x2 (M 63 x2.toNatClampNeg) (M 64 x2.toNatClampNeg)) fun M_9 =>
        m_l (x2 + 1) fun x2_10 =>
        (fG_read_L30 x1 n) M_9 x2_10
def fG_read (M : mMem)  : Option (Int32 × mMem) :=
  m_b2 (fT_parse M (M 1 0)) fun r_1 M_2 =>
  m_b1 (fT_clear M_2) fun M_3 =>
  if 0 ≤ r_1 then
    fG_read_L30 r_1 128 M_3 0
  else
    some (r_1, M_3)
def fS_useBands_L2 (b : Nat) : Nat → mMem → Int32 → Option (mMem)
  | 0, _, _ => none
  | n + 1, M, x1 =>
    if (M 1 0) ≤ x1 then
      some M
    else
      m_g (inb x1 6) <|
      m_l (mu M (b + 1) (x1.toNatClampNeg) (100 * (M 2 x1.toNatClampNeg))) fun M_3 =>
      m_l (mu M_3 (b + 2) (x1.toNatClampNeg) (100 * (M_3 3 x1.toNatClampNeg))) fun M_4 =>
      m_l (x1 + 1) fun x1_5 =>
      (fS_useBands_L2 b n) M_4 x1_5
def fS_useBands (M : mMem) (b : Nat) : Option (mMem) :=
  fS_useBands_L2 b 128 M 0
def fS_missOfAll_L43 (b : Nat) (x1 : Int32) (x2 : Int32) : Nat → mMem → Int32 → Int32 → Option (Int32 × mMem)
  | 0, _, _, _ => none
  | n + 1, M, x7, x8 =>
    if (M 1 0) ≤ x8 then
      some (x7, M)
    else
      m_g (inb x8 6) <|
      m_l (((M (b + 1) x8.toNatClampNeg) - (M ((b + 4) + 1 + x1.toNatClampNeg) x8.toNatClampNeg)) - (x2 * (M (14 + 1 + x1.toNatClampNeg) x8.toNatClampNeg))) fun x9_3 =>
      m_l (((M ((b + 9) + 1 + x1.toNatClampNeg) x8.toNatClampNeg) + (x2 * (M (19 + 1 + x1.toNatClampNeg) x8.toNatClampNeg))) - (M (b + 2) x8.toNatClampNeg)) fun x10_4 =>
      m_l ((if 0 < x9_3 then x9_3 else 0) + (if 0 < x10_4 then x10_4 else 0)) fun x11_5 =>
      if x11_5 = 0 then
        m_l (mu M (b + 14) (x8.toNatClampNeg) 1) fun M_7 =>
        m_l (x7 + x11_5) fun x7_8 =>
        m_l (x8 + 1) fun x8_9 =>
        (fS_missOfAll_L43 b x1 x2 n) M_7 x7_8 x8_9
      else
        m_l (x7 + x11_5) fun x7_10 =>
        m_l (x8 + 1) fun x8_11 =>
        (fS_missOfAll_L43 b x1 x2 n) M x7_10 x8_11
def fS_missOfAll (M : mMem) (b : Nat) (x1 : Int32) (x2 : Int32) : Option (Int32 × mMem) :=
  m_g (inb x1 4) <|
  fS_missOfAll_L43 b x1 x2 128 M 0 0
def fX_set_B26 (k : Nat) (x2 : Int32) (x3 : Int32) (M : mMem) : Option (mMem) :=
  m_l (mu M k 2 x2) fun M_2 =>
  m_l (mu M_2 k 3 x3) fun M_3 =>
  m_l (mu M_3 k 0 1) fun M_4 =>
  some M_4
def fX_set_L3 (k : Nat) (k1 : Nat) (x2 : Int32) (x3 : Int32) : Nat → mMem → Int32 → Option (mMem)
  | 0, _, _ => none
  | n + 1, M, x4 =>
    if 4 ≤ x4 then
      fX_set_B26 k x2 x3 M
    else
      m_g (inb x4 4) <|
      m_l (mu M (k + 1) (x4.toNatClampNeg) (M k1 x4.toNatClampNeg)) fun M_6 =>
      m_l (x4 + 1) fun x4_7 =>
      (fX_set_L3 k k1 x2 x3 n) M_6 x4_7
def fX_set (M : mMem) (k : Nat) (k1 : Nat) (x2 : Int32) (x3 : Int32) : Option (mMem) :=
  fX_set_L3 k k1 x2 x3 128 M 0
def fS_lookAt_B58 (b : Nat) (x1 : Int32) (x2 : Int32) (M : mMem) : Option (mMem) :=
  if (M (b + 17) 0) = 0 then
    m_b1 (fX_set M (b + 17) (b + 3) x1 x2) fun M_7 =>
    some M_7
  else
    if x2 < (M (b + 17) 3) then
      m_b1 (fX_set M (b + 17) (b + 3) x1 x2) fun M_9 =>
      some M_9
    else
      if x2 = (M (b + 17) 3) then
        if (M (b + 17) 2) ≤ x1 then
          some M
        else
          m_b1 (fX_set M (b + 17) (b + 3) x1 x2) fun M_12 =>
          some M_12
      else
        some M
def fS_lookAt_B45 (b : Nat) (x1 : Int32) (x2 : Int32) (M : mMem) : Option (mMem) :=
  m_b1 (fX_set M (b + 15) (b + 3) x1 x2) fun M_5 =>
  fS_lookAt_B58 b x1 x2 M_5
def fS_lookAt (M : mMem) (b : Nat) (x1 : Int32) (x2 : Int32) : Option (mMem) :=
  m_l (mu M b 9 ((M b 9) + 1)) fun M_1 =>
  if x2 = 0 then
    m_l (mu M_1 b 10 ((M_1 b 10) + 1)) fun M_3 =>
    if (M_3 (b + 15) 0) = 0 then
      fS_lookAt_B45 b x1 x2 M_3
    else
      if (M_3 (b + 15) 2) ≤ x1 then
        fS_lookAt_B58 b x1 x2 M_3
      else
        fS_lookAt_B45 b x1 x2 M_3
  else
    fS_lookAt_B58 b x1 x2 M_1
def fS_putShare_L9 (b : Nat) (x1 : Int32) (x2 : Int32) : Nat → mMem → Int32 → Option (mMem)
  | 0, _, _ => none
  | n + 1, M, x3 =>
    if (M 1 0) ≤ x3 then
      some M
    else
      m_g (inb (x1 + 1) 4) <|
      m_g (inb x1 4) <|
      m_g (inb x3 6) <|
      m_l (mu M ((b + 4) + 1 + (x1 + 1).toNatClampNeg) (x3.toNatClampNeg) ((M ((b + 4) + 1 + x1.toNatClampNeg) x3.toNatClampNeg) + (x2 * (M (14 + 1 + x1.toNatClampNeg) x3.toNatClampNeg)))) fun M_5 =>
      m_l (mu M_5 ((b + 9) + 1 + (x1 + 1).toNatClampNeg) (x3.toNatClampNeg) ((M_5 ((b + 9) + 1 + x1.toNatClampNeg) x3.toNatClampNeg) + (x2 * (M_5 (19 + 1 + x1.toNatClampNeg) x3.toNatClampNeg)))) fun M_6 =>
      m_l (x3 + 1) fun x3_7 =>
      (fS_putShare_L9 b x1 x2 n) M_6 x3_7
def fS_putShare (M : mMem) (b : Nat) (x1 : Int32) (x2 : Int32) : Option (mMem) :=
  m_g (inb x1 4) <|
  m_l (mu M (b + 3) (x1.toNatClampNeg) x2) fun M_1 =>
  fS_putShare_L9 b x1 x2 128 M_1 0
def fS_fillFrom_B191 (K121 : mMem → Int32 → Option (mMem)) (F : mMem → Nat → Int32 → Int32 → Int32 → Int32 → Option (mMem)) (b : Nat) (x1 : Int32) (x2 : Int32) (x4 : Int32) (M : mMem) (x7 : Int32) (x8 : Int32) (s0 : Int32) : Option (mMem) :=
  m_g (inb x1 4) <|
  m_b1 (F M b (x1 + 1) (x2 - x8) s0 (x4 + (x8 * (M 4 x1.toNatClampNeg)))) fun M_19 =>
  m_l (x7 + 1) fun x7_20 =>
  K121 M_19 x7_20
def fS_fillFrom_L121 (F : mMem → Nat → Int32 → Int32 → Int32 → Int32 → Option (mMem)) (b : Nat) (x1 : Int32) (x2 : Int32) (x3 : Int32) (x4 : Int32) (x6 : Int32) : Nat → mMem → Int32 → Option (mMem)
  | 0, _, _ => none
  | n + 1, M, x7 =>
    if 100 < x7 then
      some M
    else
      m_l (x7 * (M 1 3)) fun x8_13 =>
      if x8_13 ≤ x6 then
        m_g (inb x1 4) <|
        if x8_13 < (M 5 x1.toNatClampNeg) then
          m_l (x7 + 1) fun x7_16 =>
          (fS_fillFrom_L121 F b x1 x2 x3 x4 x6 n) M x7_16
        else
          m_b1 (fS_putShare M b x1 x8_13) fun M_17 =>
          if (M_17 7 x1.toNatClampNeg) = 0 then
            fS_fillFrom_B191 (fS_fillFrom_L121 F b x1 x2 x3 x4 x6 n) F b x1 x2 x4 M_17 x7 x8_13 x3
          else
            fS_fillFrom_B191 (fS_fillFrom_L121 F b x1 x2 x3 x4 x6 n) F b x1 x2 x4 M_17 x7 x8_13 (x3 - x8_13)
      else
        some M
def fS_fillFrom_B37 (F : mMem → Nat → Int32 → Int32 → Int32 → Int32 → Option (mMem)) (b : Nat) (x1 : Int32) (x2 : Int32) (x3 : Int32) (x4 : Int32) (M : mMem) (s0 : Int32) : Option (mMem) :=
  m_g (inb x1 4) <|
  m_l ((if (M 6 x1.toNatClampNeg) < s0 then (M 6 x1.toNatClampNeg) else s0)) fun x6_4 =>
  if x1 = ((M 1 1) - 1) then
    m_b1 (fG_within M x2 (M 5 x1.toNatClampNeg) x6_4) fun r_6 =>
    if r_6 = 0 then
      some M
    else
      m_l (mu M (b + 3) (x1.toNatClampNeg) x2) fun M_8 =>
      m_b2 (fS_missOfAll M_8 b x1 x2) fun r_9 M_10 =>
      m_b1 (fS_lookAt M_10 b (x4 + (x2 * (M_8 4 x1.toNatClampNeg))) r_9) fun M_11 =>
      some M_11
  else
    fS_fillFrom_L121 F b x1 x2 x3 x4 x6_4 128 M 0
def fS_fillFrom : Nat → mMem → Nat → Int32 → Int32 → Int32 → Int32 → Option (mMem)
  | 0, _, _, _, _, _, _ => none
  | n + 1, M, b, x1, x2, x3, x4 =>
    if x1 < 0 then
      some M
    else
      if x1 < (M 1 1) then
        m_g (inb x1 4) <|
        if (M 7 x1.toNatClampNeg) = 0 then
          fS_fillFrom_B37 (fS_fillFrom n) b x1 x2 x3 x4 M x2
        else
          fS_fillFrom_B37 (fS_fillFrom n) b x1 x2 x3 x4 M (if x3 < x2 then x3 else x2)
      else
        some M
def fS_lookAtAll_B47 (b : Nat) (M : mMem) : Option (mMem) :=
  m_b1 (fS_fillFrom 6 M b 0 100 (M 1 2) 0) fun M_6 =>
  some M_6
def fS_lookAtAll_L28 (b : Nat) : Nat → mMem → Int32 → Option (mMem)
  | 0, _, _ => none
  | n + 1, M, x1 =>
    if 6 ≤ x1 then
      fS_lookAtAll_B47 b M
    else
      m_g (inb x1 6) <|
      m_l (mu M (b + 14) (x1.toNatClampNeg) 0) fun M_8 =>
      m_l (x1 + 1) fun x1_9 =>
      (fS_lookAtAll_L28 b n) M_8 x1_9
def fS_lookAtAll (M : mMem) (b : Nat) : Option (mMem) :=
  m_l (mu M b 9 0) fun M_1 =>
  m_l (mu M_1 b 10 0) fun M_2 =>
  m_l (mu M_2 (b + 15) 0 0) fun M_3 =>
  m_l (mu M_3 (b + 17) 0 0) fun M_4 =>
  fS_lookAtAll_L28 b 128 M_4 0
def fG_searchOnce (M : mMem)  : Option (mMem) :=
  if (M 0 7) = 0 then
    m_b1 (fS_useBands M 24) fun M_2 =>
    m_b1 (fS_lookAtAll M_2 24) fun M_3 =>
    m_l (mu M_3 0 7 1) fun M_4 =>
    some M_4
  else
    some M
def fG_takeInHand (M : mMem) (k1 : Nat) : Option (Int32 × mMem) :=
  if (M k1 0) = 0 then
    some (0, M)
  else
    m_b1 (fX_set M 66 (k1 + 1) (M k1 2) (M k1 3)) fun M_2 =>
    m_l (mu M_2 68 0 0) fun M_3 =>
    some (1, M_3)
def fG_run (M : mMem)  : Option (Int32 × mMem) :=
  m_b1 (fG_searchOnce M) fun M_1 =>
  m_b2 (fG_takeInHand M_1 39) fun r_2 M_3 =>
  if r_2 = 0 then
    some ((-1), M_3)
  else
    some (M_3 66 2, M_3)
def fG_near (M : mMem)  : Option (Int32 × mMem) :=
  m_b1 (fG_searchOnce M) fun M_1 =>
  m_b2 (fG_takeInHand M_1 41) fun r_2 M_3 =>
  if r_2 = 0 then
    some ((-1), M_3)
  else
    some (M_3 66 3, M_3)
def fG_share (M : mMem) (x1 : Int32) : Option (Int32) :=
  if (M 66 0) = 0 then
    some (-1)
  else
    m_b1 (fP_hasStock M x1) fun r_2 =>
    if r_2 = 0 then
      some (-1)
    else
      m_g (inb x1 4) <|
      some (M 67 x1.toNatClampNeg)
def fP_sumAt_L6 (x1 : Int32) (k2 : Nat) (k3 : Nat) (M : mMem) : Nat → Int32 → Int32 → Option (Int32)
  | 0, _, _ => none
  | n + 1, x4, x5 =>
    if (M 1 1) ≤ x5 then
      some x4
    else
      m_g (inb x5 4) <|
      m_g (inb x1 6) <|
      m_l (x4 + ((M (k3 + 1) x5.toNatClampNeg) * (M (k2 + 1 + x5.toNatClampNeg) x1.toNatClampNeg))) fun x4_3 =>
      m_l (x5 + 1) fun x5_4 =>
      (fP_sumAt_L6 x1 k2 k3 M n) x4_3 x5_4
def fP_sumAt (M : mMem) (x1 : Int32) (k2 : Nat) (k3 : Nat) : Option (Int32) :=
  fP_sumAt_L6 x1 k2 k3 M 128 0 0
def fP_missAt (M : mMem) (x1 : Int32) (k2 : Nat) : Option (Int32) :=
  m_g (inb x1 6) <|
  m_b1 (fP_sumAt M x1 14 k2) fun r_1 =>
  m_l ((100 * (M 2 x1.toNatClampNeg)) - r_1) fun x3_2 =>
  m_b1 (fP_sumAt M x1 19 k2) fun r_3 =>
  m_l (r_3 - (100 * (M 3 x1.toNatClampNeg))) fun x4_4 =>
  some ((if 0 < x3_2 then x3_2 else 0) + (if 0 < x4_4 then x4_4 else 0))
def fG_told (M : mMem) (x1 : Int32) (x2 : Int32) : Option (Int32) :=
  if (M 66 0) = 0 then
    some (-1)
  else
    m_b1 (fP_hasSieve M x1) fun r_2 =>
    if r_2 = 0 then
      some (-1)
    else
      if x2 = 0 then
        m_b1 (fP_sumAt M x1 9 66) fun r_5 =>
        some r_5
      else
      if x2 = 1 then
        m_b1 (fP_sumAt M x1 14 66) fun r_7 =>
        some r_7
      else
      if x2 = 2 then
        m_b1 (fP_sumAt M x1 19 66) fun r_9 =>
        some r_9
      else
      if x2 = 3 then
        m_b1 (fP_missAt M x1 66) fun r_11 =>
        some r_11
      else
      some (-1)
def fG_cost (M : mMem)  : Option (Int32) :=
  if (M 66 0) = 0 then
    some (-1)
  else
    some (M 66 2)
def fG_lonely_L20 (x1 : Int32) (M : mMem) : Nat → Int32 → Int32 → Option (Int32 × mMem)
  | 0, _, _ => none
  | n + 1, x2, x3 =>
    if (M 1 0) ≤ x3 then
      some ((-1), M)
    else
      m_g (inb x3 6) <|
      if (M 38 x3.toNatClampNeg) = 0 then
        if x2 = x1 then
          some (x3, M)
        else
          m_l (x2 + 1) fun x2_7 =>
          m_l (x3 + 1) fun x3_8 =>
          (fG_lonely_L20 x1 M n) x2_7 x3_8
      else
        m_l (x3 + 1) fun x3_9 =>
        (fG_lonely_L20 x1 M n) x2 x3_9
def fG_lonely (M : mMem) (x1 : Int32) : Option (Int32 × mMem) :=
  m_b1 (fG_searchOnce M) fun M_1 =>
  if (M_1 24 9) = 0 then
    some ((-1), M_1)
  else
    fG_lonely_L20 x1 M_1 128 0 0
def fS_widen (M : mMem) (b : Nat) (x1 : Int32) (x2 : Int32) (x3 : Int32) : Option (mMem) :=
  if x2 = 0 then
    m_g (inb x1 6) <|
    m_l (mu M (b + 1) (x1.toNatClampNeg) (100 * (if 0 < ((M 2 x1.toNatClampNeg) - x3) then ((M 2 x1.toNatClampNeg) - x3) else 0))) fun M_2 =>
    some M_2
  else
    m_g (inb x1 6) <|
    m_l (mu M (b + 2) (x1.toNatClampNeg) (100 * (if ((M 3 x1.toNatClampNeg) + x3) < 1000 then ((M 3 x1.toNatClampNeg) + x3) else 1000))) fun M_3 =>
    some M_3
def fG_worth (M : mMem) (x1 : Int32) (x2 : Int32) (x3 : Int32) : Option (Int32 × mMem) :=
  m_b1 (fP_hasSieve M x1) fun r_1 =>
  if r_1 = 0 then
    some ((-1), M)
  else
    m_b1 (fG_within M x3 0 1000) fun r_3 =>
    if r_3 = 0 then
      some ((-1), M)
    else
      m_b1 (fG_searchOnce M) fun M_5 =>
      if (M_5 39 0) = 0 then
        some ((-1), M_5)
      else
        m_b1 (fS_useBands M_5 43) fun M_7 =>
        m_b1 (fS_widen M_7 43 x1 x2 x3) fun M_8 =>
        m_b1 (fS_lookAtAll M_8 43) fun M_9 =>
        some ((M_9 39 2) - (M_9 58 2), M_9)
def fG_water (M : mMem) (x1 : Int32) (x2 : Int32) : Option (Int32 × mMem) :=
  m_b1 (fP_hasStock M x1) fun r_1 =>
  if r_1 = 0 then
    some ((-1), M)
  else
    m_b1 (fG_within M x2 0 300) fun r_3 =>
    if r_3 = 0 then
      some ((-1), M)
    else
      m_g (inb x1 4) <|
      m_l (M 8 x1.toNatClampNeg) fun x3_5 =>
      m_l (mu M 8 (x1.toNatClampNeg) x2) fun M_6 =>
      some (x3_5, M_6)
def fB_fill_B109 (M : mMem) (x6 : Int32) : Option (Int32 × mMem) :=
  m_l (mu M 68 0 1) fun M_2 =>
  some (x6, M_2)
def fB_fill_L12 (x1 : Int32) (k2 : Nat) : Nat → mMem → Int32 → Int32 → Int32 → Int32 → Option (Int32 × mMem)
  | 0, _, _, _, _, _ => none
  | n + 1, M, x4, x5, x6, x7 =>
    if (M 1 1) ≤ x7 then
      fB_fill_B109 M x6
    else
      m_g (inb x7 4) <|
      m_l (x4 + (M (k2 + 1) x7.toNatClampNeg)) fun x4_4 =>
      m_l ((x1 * x4_4) / 100) fun x8_5 =>
      m_l (mu M 69 (x7.toNatClampNeg) (x8_5 - x5)) fun M_6 =>
      m_l (((M_6 69 x7.toNatClampNeg) * (M_6 8 x7.toNatClampNeg)) / 1000) fun x9_7 =>
      m_l (mu M_6 70 (x7.toNatClampNeg) ((M_6 69 x7.toNatClampNeg) + x9_7)) fun M_8 =>
      m_l (x6 + x9_7) fun x6_9 =>
      m_l (x7 + 1) fun x7_10 =>
      (fB_fill_L12 x1 k2 n) M_8 x4_4 x8_5 x6_9 x7_10
def fB_fill (M : mMem) (x1 : Int32) (k2 : Nat) : Option (Int32 × mMem) :=
  fB_fill_L12 x1 k2 128 M 0 0 0 0
def fG_batch (M : mMem) (x1 : Int32) : Option (Int32 × mMem) :=
  if (M 66 0) = 0 then
    some ((-1), M)
  else
    m_b1 (fG_within M x1 0 1000000) fun r_2 =>
    if r_2 = 0 then
      some ((-1), M)
    else
      m_b2 (fB_fill M x1 66) fun r_4 M_5 =>
      some (r_4, M_5)
def fG_mass (M : mMem) (x1 : Int32) (x2 : Int32) : Option (Int32) :=
  if (M 68 0) = 0 then
    some (-1)
  else
    m_b1 (fP_hasStock M x1) fun r_2 =>
    if r_2 = 0 then
      some (-1)
    else
      if x2 = 0 then
        m_g (inb x1 4) <|
        some (M 69 x1.toNatClampNeg)
      else
        m_g (inb x1 4) <|
        some (M 70 x1.toNatClampNeg)
def fG_limit (M : mMem) (x1 : Int32) : Option (Int32 × mMem) :=
  m_b1 (fG_within M x1 1 1000) fun r_1 =>
  if r_1 = 0 then
    some ((-1), M)
  else
    m_l (M 0 8) fun x2_3 =>
    m_l (mu M 0 8 x1) fun M_4 =>
    some (x2_3, M_4)
def fL_add (M : mMem) (x1 : Int32) (x2 : Int32) : Option (mMem) :=
  m_g (inb x1 6) <|
  m_g (inb (M 72 x1.toNatClampNeg) 100) <|
  m_l (mu M (73 + 1 + x1.toNatClampNeg) ((M 72 x1.toNatClampNeg).toNatClampNeg) x2) fun M_2 =>
  m_l (mu M_2 72 (x1.toNatClampNeg) ((M_2 72 x1.toNatClampNeg) + 1)) fun M_3 =>
  m_l (mu M_3 71 0 ((M_3 71 0) + 1)) fun M_4 =>
  some M_4
def fL_drifts_B75 (M : mMem) (x4 : Int32) (x5 : Int32) : Option (Int32) :=
  if x4 = 5 then
    some 1
  else
    if x5 = 5 then
      some 1
    else
      some 0
def fL_drifts_L25 (x1 : Int32) (x2 : Int32) (M : mMem) (x3 : Int32) : Nat → Int32 → Int32 → Int32 → Option (Int32)
  | 0, _, _, _ => none
  | n + 1, x4, x5, x6 =>
    if x3 ≤ x6 then
      fL_drifts_B75 M x4 x5
    else
      m_g (inb x1 6) <|
      m_g (inb x6 100) <|
      if (M (73 + 1 + x1.toNatClampNeg) x6.toNatClampNeg) ≤ (x2 + 10) then
        if (x2 - 10) ≤ (M (73 + 1 + x1.toNatClampNeg) x6.toNatClampNeg) then
          m_l (x6 + 1) fun x6_10 =>
          (fL_drifts_L25 x1 x2 M x3 n) x4 x5 x6_10
        else
          m_l (x5 + 1) fun x5_11 =>
          m_l (x6 + 1) fun x6_12 =>
          (fL_drifts_L25 x1 x2 M x3 n) x4 x5_11 x6_12
      else
        m_l (x4 + 1) fun x4_13 =>
        if (x2 - 10) ≤ (M (73 + 1 + x1.toNatClampNeg) x6.toNatClampNeg) then
          m_l (x6 + 1) fun x6_15 =>
          (fL_drifts_L25 x1 x2 M x3 n) x4_13 x5 x6_15
        else
          m_l (x5 + 1) fun x5_16 =>
          m_l (x6 + 1) fun x6_17 =>
          (fL_drifts_L25 x1 x2 M x3 n) x4_13 x5_16 x6_17
def fL_drifts (M : mMem) (x1 : Int32) (x2 : Int32) : Option (Int32) :=
  m_g (inb x1 6) <|
  m_l (M 72 x1.toNatClampNeg) fun x3_1 =>
  if 5 ≤ x3_1 then
    m_l (x3_1 - 5) fun x6_3 =>
    fL_drifts_L25 x1 x2 M x3_1 128 0 0 x6_3
  else
    some 0
def fL_jumps (M : mMem) (x1 : Int32) (x2 : Int32) : Option (Int32) :=
  m_g (inb x1 6) <|
  m_l (M 72 x1.toNatClampNeg) fun x3_1 =>
  if x3_1 < 2 then
    some 0
  else
    m_g (inb (x3_1 - 1) 100) <|
    m_g (inb (x3_1 - 2) 100) <|
    if (if 0 ≤ ((M (73 + 1 + x1.toNatClampNeg) (x3_1 - 1).toNatClampNeg) - (M (73 + 1 + x1.toNatClampNeg) (x3_1 - 2).toNatClampNeg)) then ((M (73 + 1 + x1.toNatClampNeg) (x3_1 - 1).toNatClampNeg) - (M (73 + 1 + x1.toNatClampNeg) (x3_1 - 2).toNatClampNeg)) else 0 - ((M (73 + 1 + x1.toNatClampNeg) (x3_1 - 1).toNatClampNeg) - (M (73 + 1 + x1.toNatClampNeg) (x3_1 - 2).toNatClampNeg))) ≤ x2 then
      some 0
    else
      some 1
def fG_firstRule (M : mMem) (x1 : Int32) (x2 : Int32) : Option (Int32) :=
  m_g (inb x1 6) <|
  m_b1 (fG_within M x2 (M 2 x1.toNatClampNeg) (M 3 x1.toNatClampNeg)) fun r_1 =>
  if r_1 = 0 then
    some 1
  else
    if (M 66 0) = 0 then
      m_b1 (fL_jumps M x1 (M 0 8)) fun r_4 =>
      if r_4 = 0 then
        some 0
      else
        some 3
    else
      m_b1 (fP_sumAt M x1 9 66) fun r_6 =>
      m_b1 (fL_drifts M x1 (r_6 / 100)) fun r_7 =>
      if r_7 = 0 then
        m_b1 (fL_jumps M x1 (M 0 8)) fun r_9 =>
        if r_9 = 0 then
          some 0
        else
          some 3
      else
        some 2
def fL_addFired (M : mMem) (x1 : Int32) (x2 : Int32) : Option (mMem) :=
  m_g (inb (M 71 3) 100) <|
  m_l (mu M 80 ((M 71 3).toNatClampNeg) x1) fun M_2 =>
  m_g (inb x1 6) <|
  m_g (inb (M_2 71 3) 100) <|
  m_l (mu M_2 81 ((M_2 71 3).toNatClampNeg) ((M_2 72 x1.toNatClampNeg) - 1)) fun M_4 =>
  m_g (inb (M_4 71 3) 100) <|
  m_l (mu M_4 82 ((M_4 71 3).toNatClampNeg) x2) fun M_6 =>
  m_l (mu M_6 71 3 ((M_6 71 3) + 1)) fun M_7 =>
  some M_7
def fG_test (M : mMem) (x1 : Int32) (x2 : Int32) : Option (Int32 × mMem) :=
  m_b1 (fP_hasSieve M x1) fun r_1 =>
  if r_1 = 0 then
    some ((-1), M)
  else
    m_b1 (fG_within M x2 0 1000) fun r_3 =>
    if r_3 = 0 then
      some ((-1), M)
    else
      if (M 71 0) < 100 then
        m_b1 (fL_add M x1 x2) fun M_6 =>
        m_b1 (fG_firstRule M_6 x1 x2) fun r_7 =>
        if r_7 = 0 then
          some (r_7, M_6)
        else
          m_b1 (fL_addFired M_6 x1 r_7) fun M_9 =>
          some (r_7, M_9)
      else
        some ((-1), M)
def fG_fired (M : mMem) (x1 : Int32) (x2 : Int32) : Option (Int32) :=
  if x1 < 0 then
    some (-1)
  else
    if x1 < (M 71 3) then
      if x2 = 0 then
        m_g (inb x1 100) <|
        some (M 80 x1.toNatClampNeg)
      else
      if x2 = 1 then
        m_g (inb x1 100) <|
        some (M 81 x1.toNatClampNeg)
      else
      if x2 = 2 then
        m_g (inb x1 100) <|
        some (M 82 x1.toNatClampNeg)
      else
      some (-1)
    else
      some (-1)
def fG_count (M : mMem) (x1 : Int32) : Option (Int32 × mMem) :=
  if x1 = 0 then
    some (M 1 0, M)
  else
  if x1 = 1 then
    some (M 1 1, M)
  else
  if x1 = 2 then
    some (M 71 0, M)
  else
  if x1 = 3 then
    some (M 71 3, M)
  else
  if x1 = 4 then
    m_b1 (fG_searchOnce M) fun M_6 =>
    some (M_6 24 9, M_6)
  else
  if x1 = 5 then
    m_b1 (fG_searchOnce M) fun M_8 =>
    some (M_8 24 10, M_8)
  else
  some ((-1), M)
