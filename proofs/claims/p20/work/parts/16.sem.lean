def m_Md_isPlace (h0 : Nat) (x1 : Int32) (σ : fr_S) : Option (Int32) :=
  if x1 < 0 then
    some 0
  else
    (oI σ 0 6 h0).bind fun v2 =>
    if v2 ≤ x1 then
      some 0
    else
      some 1
def m_Md_isWant (h0 : Nat) (x1 : Int32) (σ : fr_S) : Option (Int32) :=
  if x1 < 0 then
    some 0
  else
    (oI σ 0 7 h0).bind fun v2 =>
    if v2 ≤ x1 then
      some 0
    else
      some 1
def m_Md_credential (h0 : Nat) (x1 : Int32) (x2 : Int32) (σ : fr_S) : Option (Int32 × fr_S) :=
  (sI σ 0 1 h0 0).bind fun σ_1 =>
  if x1 < 0 then
    some (0, σ_1)
  else
    if x1 < 8 then
      (oP σ_1 0 4 h0).bind fun q4 =>
      (sV σ_1 1 q4 x1 (vp_nar .boolean x2)).bind fun σ_5 =>
      some (1, σ_5)
    else
      some (0, σ_1)
def m_Md_place (h0 : Nat) (x1 : Int32) (x2 : Int32) (σ : fr_S) : Option (Int32 × fr_S) :=
  (sI σ 0 1 h0 0).bind fun σ_1 =>
  (oI σ_1 0 6 h0).bind fun v2 =>
  if v2 = 16 then
    some ((-1), σ_1)
  else
    if x1 < 0 then
      some ((-1), σ_1)
    else
      if 8 ≤ x1 then
        some ((-1), σ_1)
      else
        if x2 < 1 then
          some ((-1), σ_1)
        else
          if x2 ≤ 50 then
            (oP σ_1 0 11 h0).bind fun q8 =>
            (oI σ_1 0 6 h0).bind fun v9 =>
            (sV σ_1 0 q8 v9 x1).bind fun σ_10 =>
            (oP σ_10 0 12 h0).bind fun q11 =>
            (oI σ_10 0 6 h0).bind fun v12 =>
            (sV σ_10 0 q11 v12 x2).bind fun σ_13 =>
            (oP σ_13 0 14 h0).bind fun q14 =>
            (oI σ_13 0 6 h0).bind fun v15 =>
            (sV σ_13 0 q14 v15 (-1)).bind fun σ_16 =>
            (oI σ_16 0 6 h0).bind fun v17 =>
            (sI σ_16 0 6 h0 (v17 + 1)).bind fun σ_18 =>
            (oI σ_18 0 6 h0).bind fun v19 =>
            some ((v19 - 1), σ_18)
          else
            some ((-1), σ_1)
def m_Md_content_L48 : Nat → Nat → Int32 → Int64 → Int32 → fr_S → Option (Int32 × fr_S)
  | 0, _, _, _, _, _ => none
  | n + 1, b0, y1, y2, y5, σ =>
    if y5 < 0 then
      some (1, σ)
    else
      (oP σ 0 17 b0).bind fun q11 =>
      (oP σ 0 13 b0).bind fun q12 =>
      (oV σ 0 q12 y1).bind fun v13 =>
      (sV σ 0 q11 ((100 * y1) + v13) ((y2 >>> ((8 * y5).toInt64 &&& 63)) &&& (255)).toInt32).bind fun σ_14 =>
      (oP σ_14 0 13 b0).bind fun q15 =>
      (oV σ_14 0 q15 y1).bind fun v16 =>
      (sV σ_14 0 q15 y1 (v16 + 1)).bind fun σ_17 =>
      m_Md_content_L48 n b0 y1 y2 (y5 + (-1)) σ_17
def m_Md_content (h0 : Nat) (x1 : Int32) (x2 : Int64) (x4 : Int32) (σ : fr_S) : Option (Int32 × fr_S) :=
  (sI σ 0 1 h0 0).bind fun σ_1 =>
  (oK σ_1 0 h0).bind fun _ =>
  (m_Md_isPlace h0 x1 σ_1).bind fun r3 =>
  if r3 = 0 then
    some (0, σ_1)
  else
    if x4 < 1 then
      some (0, σ_1)
    else
      if 8 < x4 then
        some (0, σ_1)
      else
        (oP σ_1 0 13 h0).bind fun q7 =>
        (oV σ_1 0 q7 x1).bind fun v8 =>
        if (v8 + x4) ≤ 100 then
          m_Md_content_L48 1000 h0 x1 x2 (x4 - 1) σ_1
        else
          some (0, σ_1)
def m_Md_does_B93 (b0 : Nat) (y1 : Int32) (y2 : Int32) (y3 : Int32) (σ : fr_S) : Option (Int32 × fr_S) :=
  if y2 = 3 then
    (oP σ 0 20 b0).bind fun q26 =>
    if y3 = 0 then
      (sV σ 1 q26 y1 (vp_nar .boolean 0)).bind fun σ_28 =>
      some (1, σ_28)
    else
      (sV σ 1 q26 y1 (vp_nar .boolean 1)).bind fun σ_29 =>
      some (1, σ_29)
  else
    some (1, σ)
def m_Md_does_B73 (b0 : Nat) (y1 : Int32) (y2 : Int32) (y3 : Int32) (σ : fr_S) : Option (Int32 × fr_S) :=
  if y2 = 2 then
    (oP σ 0 19 b0).bind fun q21 =>
    if y3 = 0 then
      (sV σ 1 q21 y1 (vp_nar .boolean 0)).bind fun σ_23 =>
      m_Md_does_B93 b0 y1 y2 y3 σ_23
    else
      (sV σ 1 q21 y1 (vp_nar .boolean 1)).bind fun σ_24 =>
      m_Md_does_B93 b0 y1 y2 y3 σ_24
  else
    m_Md_does_B93 b0 y1 y2 y3 σ
def m_Md_does_B61 (b0 : Nat) (y1 : Int32) (y2 : Int32) (y3 : Int32) (σ : fr_S) : Option (Int32 × fr_S) :=
  if y2 = 1 then
    (oP σ 0 14 b0).bind fun q18 =>
    (sV σ 0 q18 y1 y3).bind fun σ_19 =>
    m_Md_does_B73 b0 y1 y2 y3 σ_19
  else
    m_Md_does_B73 b0 y1 y2 y3 σ
def m_Md_does_B42 (b0 : Nat) (y1 : Int32) (y2 : Int32) (y3 : Int32) (σ : fr_S) : Option (Int32 × fr_S) :=
  if y2 = 0 then
    (oP σ 0 18 b0).bind fun q13 =>
    if y3 = 0 then
      (sV σ 1 q13 y1 (vp_nar .boolean 0)).bind fun σ_15 =>
      m_Md_does_B61 b0 y1 y2 y3 σ_15
    else
      (sV σ 1 q13 y1 (vp_nar .boolean 1)).bind fun σ_16 =>
      m_Md_does_B61 b0 y1 y2 y3 σ_16
  else
    m_Md_does_B61 b0 y1 y2 y3 σ
def m_Md_does (h0 : Nat) (x1 : Int32) (x2 : Int32) (x3 : Int32) (σ : fr_S) : Option (Int32 × fr_S) :=
  (sI σ 0 1 h0 0).bind fun σ_1 =>
  (oK σ_1 0 h0).bind fun _ =>
  (m_Md_isPlace h0 x1 σ_1).bind fun r3 =>
  if r3 = 0 then
    some (0, σ_1)
  else
    if x2 < 0 then
      some (0, σ_1)
    else
      if 3 < x2 then
        some (0, σ_1)
      else
        if x2 = 1 then
          if x3 = (-1) then
            m_Md_does_B42 h0 x1 x2 x3 σ_1
          else
            (oK σ_1 0 h0).bind fun _ =>
            (m_Md_isPlace h0 x3 σ_1).bind fun r10 =>
            if r10 = 0 then
              some (0, σ_1)
            else
              m_Md_does_B42 h0 x1 x2 x3 σ_1
        else
          m_Md_does_B42 h0 x1 x2 x3 σ_1
def m_Md_cut (h0 : Nat) (x1 : Int32) (x2 : Int32) (x3 : Int32) (σ : fr_S) : Option (Int32 × fr_S) :=
  (sI σ 0 1 h0 0).bind fun σ_1 =>
  (oK σ_1 0 h0).bind fun _ =>
  (m_Md_isPlace h0 x1 σ_1).bind fun r3 =>
  if r3 = 0 then
    some (0, σ_1)
  else
    if x2 < 0 then
      some (0, σ_1)
    else
      if 9 < x2 then
        some (0, σ_1)
      else
        if x3 < 0 then
          some (0, σ_1)
        else
          if x3 ≤ 100 then
            (oP σ_1 0 15 h0).bind fun q9 =>
            (sV σ_1 0 q9 x1 x2).bind fun σ_10 =>
            (oP σ_10 0 16 h0).bind fun q11 =>
            (sV σ_10 0 q11 x1 x3).bind fun σ_12 =>
            some (1, σ_12)
          else
            some (0, σ_1)
def m_Md_next (x0 : Int32) (x1 : Int32) (σ : fr_S) : Option (Int32) :=
  some (((((x0 ^^^ x1) <<< (5 &&& 31)) ||| (fr_ushr (x0 ^^^ x1) 27)) * (-2048144777)))
def m_Md_digest_L9 : Nat → Nat → Int32 → Int32 → Int32 → fr_S → Option (Int32 × fr_S)
  | 0, _, _, _, _, _ => none
  | n + 1, b0, y1, y2, y3, σ =>
    (oK σ 0 b0).bind fun _ =>
    (m_Md_isPlace b0 y1 σ).bind fun r3 =>
    if r3 = 0 then
      some (y2, σ)
    else
      (oP σ 0 13 b0).bind fun q5 =>
      (oV σ 0 q5 y1).bind fun v6 =>
      if v6 ≤ y3 then
        some (y2, σ)
      else
        (oP σ 0 17 b0).bind fun q8 =>
        (oV σ 0 q8 ((100 * y1) + y3)).bind fun v9 =>
        (m_Md_next y2 v9 σ).bind fun r10 =>
        m_Md_digest_L9 n b0 y1 r10 (y3 + 1) σ
def m_Md_digest (h0 : Nat) (x1 : Int32) (σ : fr_S) : Option (Int32 × fr_S) :=
  (sI σ 0 1 h0 0).bind fun σ_1 =>
  m_Md_digest_L9 1000 h0 x1 0 0 σ_1
def m_Md_want (h0 : Nat) (x1 : Int32) (σ : fr_S) : Option (Int32 × fr_S) :=
  (sI σ 0 1 h0 0).bind fun σ_1 =>
  (oI σ_1 0 7 h0).bind fun v2 =>
  if v2 = 10 then
    some ((-1), σ_1)
  else
    (oP σ_1 0 22 h0).bind fun q4 =>
    (oI σ_1 0 7 h0).bind fun v5 =>
    (sV σ_1 0 q4 v5 x1).bind fun σ_6 =>
    (oI σ_6 0 7 h0).bind fun v7 =>
    (sI σ_6 0 7 h0 (v7 + 1)).bind fun σ_8 =>
    (oI σ_8 0 7 h0).bind fun v9 =>
    some ((v9 - 1), σ_8)
def m_Md_from_L45 : Nat → Nat → Int32 → Int32 → Int32 → fr_S → Option (Int32 × fr_S)
  | 0, _, _, _, _, _ => none
  | n + 1, b0, y1, y2, y3, σ =>
    (oP σ 0 23 b0).bind fun q14 =>
    (oV σ 0 q14 y1).bind fun v15 =>
    if v15 ≤ y3 then
      (oP σ 0 24 b0).bind fun q17 =>
      (oP σ 0 23 b0).bind fun q18 =>
      (oV σ 0 q18 y1).bind fun v19 =>
      (sV σ 0 q17 ((6 * y1) + v19) y2).bind fun σ_20 =>
      (oP σ_20 0 23 b0).bind fun q21 =>
      (oV σ_20 0 q21 y1).bind fun v22 =>
      (sV σ_20 0 q21 y1 (v22 + 1)).bind fun σ_23 =>
      some (1, σ_23)
    else
      (oP σ 0 24 b0).bind fun q24 =>
      (oV σ 0 q24 ((6 * y1) + y3)).bind fun v25 =>
      if v25 = y2 then
        some (0, σ)
      else
        m_Md_from_L45 n b0 y1 y2 (y3 + 1) σ
def m_Md_from (h0 : Nat) (x1 : Int32) (x2 : Int32) (σ : fr_S) : Option (Int32 × fr_S) :=
  (sI σ 0 1 h0 0).bind fun σ_1 =>
  (oK σ_1 0 h0).bind fun _ =>
  (m_Md_isWant h0 x1 σ_1).bind fun r3 =>
  if r3 = 0 then
    some (0, σ_1)
  else
    (oK σ_1 0 h0).bind fun _ =>
    (m_Md_isPlace h0 x2 σ_1).bind fun r6 =>
    if r6 = 0 then
      some (0, σ_1)
    else
      (oP σ_1 0 25 h0).bind fun q8 =>
      (oV σ_1 0 q8 x1).bind fun v9 =>
      if v9 = 0 then
        (oP σ_1 0 23 h0).bind fun q11 =>
        (oV σ_1 0 q11 x1).bind fun v12 =>
        if v12 = 6 then
          some (0, σ_1)
        else
          m_Md_from_L45 1000 h0 x1 x2 0 σ_1
      else
        some (0, σ_1)
def m_Md_offLine (h0 : Nat) (x1 : Int32) (σ : fr_S) : Option (fr_S) :=
  (sI σ 0 1 h0 0).bind fun σ_1 =>
  (sZ σ_1 0 3 h0 x1).bind fun σ_2 =>
  (sI σ_2 0 10 h0 0).bind fun σ_3 =>
  some σ_3
def m_Md_keptOf_L4 : Nat → Nat → Int32 → Int32 → Int32 → fr_S → Option (Int32)
  | 0, _, _, _, _, _ => none
  | n + 1, b0, y1, y2, y3, σ =>
    (oI σ 0 8 b0).bind fun v1 =>
    if v1 ≤ y3 then
      some y2
    else
      (oP σ 0 32 b0).bind fun q3 =>
      (oV σ 0 q3 y3).bind fun v4 =>
      if v4 = y1 then
        m_Md_keptOf_L4 n b0 y1 y3 (y3 + 1) σ
      else
        m_Md_keptOf_L4 n b0 y1 y2 (y3 + 1) σ
def m_Md_keptOf (h0 : Nat) (x1 : Int32) (σ : fr_S) : Option (Int32) :=
  m_Md_keptOf_L4 1000 h0 x1 (-1) 0 σ
def m_Md_goOn_L16 : Nat → Nat → Int32 → Int32 → fr_S → Option (fr_S)
  | 0, _, _, _, _ => none
  | n + 1, b0, y1, y3, σ =>
    (oP σ 0 23 b0).bind fun q5 =>
    (oV σ 0 q5 y1).bind fun v6 =>
    if v6 ≤ y3 then
      (oP σ 0 26 b0).bind fun q8 =>
      (sV σ 0 q8 y1 y3).bind fun σ_9 =>
      (oP σ_9 0 25 b0).bind fun q10 =>
      (oP σ_9 0 23 b0).bind fun q11 =>
      (oV σ_9 0 q11 y1).bind fun v12 =>
      if v12 ≤ y3 then
        (sV σ_9 0 q10 y1 4).bind fun σ_14 =>
        some σ_14
      else
        (sV σ_9 0 q10 y1 1).bind fun σ_15 =>
        some σ_15
    else
      (oP σ 0 21 b0).bind fun q16 =>
      (oP σ 0 24 b0).bind fun q17 =>
      (oV σ 0 q17 ((6 * y1) + y3)).bind fun v18 =>
      (oV σ 1 q16 v18).bind fun v19 =>
      if v19 = 0 then
        (oP σ 0 26 b0).bind fun q21 =>
        (sV σ 0 q21 y1 y3).bind fun σ_22 =>
        (oP σ_22 0 25 b0).bind fun q23 =>
        (oP σ_22 0 23 b0).bind fun q24 =>
        (oV σ_22 0 q24 y1).bind fun v25 =>
        if v25 ≤ y3 then
          (sV σ_22 0 q23 y1 4).bind fun σ_27 =>
          some σ_27
        else
          (sV σ_22 0 q23 y1 1).bind fun σ_28 =>
          some σ_28
      else
        m_Md_goOn_L16 n b0 y1 (y3 + 1) σ
def m_Md_goOn (h0 : Nat) (x1 : Int32) (x2 : Int32) (σ : fr_S) : Option (fr_S) :=
  (oP σ 0 27 h0).bind fun q1 =>
  (sV σ 0 q1 x1 0).bind fun σ_2 =>
  (oP σ_2 0 31 h0).bind fun q3 =>
  (sV σ_2 0 q3 x1 0).bind fun σ_4 =>
  m_Md_goOn_L16 1000 h0 x1 x2 σ_4
def m_Md_tellLack_L4 : Nat → Nat → Int32 → Int32 → Int32 → fr_S → Option (fr_S)
  | 0, _, _, _, _, _ => none
  | n + 1, b0, y1, y2, y3, σ =>
    (oI σ 0 10 b0).bind fun v1 =>
    if v1 ≤ y3 then
      if y2 = 0 then
        (oP σ 0 38 b0).bind fun q4 =>
        (oI σ 0 10 b0).bind fun v5 =>
        (sV σ 0 q4 v5 y1).bind fun σ_6 =>
        (oI σ_6 0 10 b0).bind fun v7 =>
        (sI σ_6 0 10 b0 (v7 + 1)).bind fun σ_8 =>
        some σ_8
      else
        some σ
    else
      if y2 = 0 then
        (oP σ 0 38 b0).bind fun q10 =>
        (oV σ 0 q10 y3).bind fun v11 =>
        if v11 = y1 then
          m_Md_tellLack_L4 n b0 y1 1 (y3 + 1) σ
        else
          m_Md_tellLack_L4 n b0 y1 0 (y3 + 1) σ
      else
        m_Md_tellLack_L4 n b0 y1 1 (y3 + 1) σ
def m_Md_tellLack (h0 : Nat) (x1 : Int32) (σ : fr_S) : Option (fr_S) :=
  m_Md_tellLack_L4 1000 h0 x1 0 0 σ
def m_Md_begin_L65 : Nat → Nat → Int32 → Int32 → Int32 → fr_S → Option (Int32 × fr_S)
  | 0, _, _, _, _, _ => none
  | n + 1, b0, y1, y2, y3, σ =>
    (oP σ 0 27 b0).bind fun q34 =>
    (oV σ 0 q34 y1).bind fun v35 =>
    if v35 ≤ y3 then
      (oP σ 0 25 b0).bind fun q37 =>
      (sV σ 0 q37 y1 3).bind fun σ_38 =>
      (oP σ_38 0 25 b0).bind fun q39 =>
      (oV σ_38 0 q39 y1).bind fun v40 =>
      some (v40, σ_38)
    else
      (oP σ 0 28 b0).bind fun q41 =>
      (oP σ 0 34 b0).bind fun q42 =>
      (oV σ 0 q42 ((100 * y2) + y3)).bind fun v43 =>
      (sV σ 0 q41 ((100 * y1) + y3) v43).bind fun σ_44 =>
      m_Md_begin_L65 n b0 y1 y2 (y3 + 1) σ_44
def m_Md_begin (h0 : Nat) (x1 : Int32) (σ : fr_S) : Option (Int32 × fr_S) :=
  (sI σ 0 1 h0 0).bind fun σ_1 =>
  (oK σ_1 0 h0).bind fun _ =>
  (m_Md_isWant h0 x1 σ_1).bind fun r3 =>
  if r3 = 0 then
    some ((-1), σ_1)
  else
    (oP σ_1 0 25 h0).bind fun q5 =>
    (oV σ_1 0 q5 x1).bind fun v6 =>
    if v6 = 1 then
      some ((-1), σ_1)
    else
      (oP σ_1 0 25 h0).bind fun q8 =>
      (oV σ_1 0 q8 x1).bind fun v9 =>
      if v9 = 2 then
        some ((-1), σ_1)
      else
        (oP σ_1 0 22 h0).bind fun q11 =>
        (oV σ_1 0 q11 x1).bind fun v12 =>
        (oK σ_1 0 h0).bind fun _ =>
        (m_Md_keptOf h0 v12 σ_1).bind fun r14 =>
        if r14 = (-1) then
          (oI σ_1 0 3 h0).bind fun v16 =>
          if v16 = 0 then
            (oK σ_1 0 h0).bind fun _ =>
            (m_Md_goOn h0 x1 0 σ_1).bind fun σ_19 =>
            (oP σ_19 0 25 h0).bind fun q20 =>
            (oV σ_19 0 q20 x1).bind fun v21 =>
            some (v21, σ_19)
          else
            (oP σ_1 0 27 h0).bind fun q22 =>
            (sV σ_1 0 q22 x1 0).bind fun σ_23 =>
            (oP σ_23 0 25 h0).bind fun q24 =>
            (sV σ_23 0 q24 x1 4).bind fun σ_25 =>
            (oK σ_25 0 h0).bind fun _ =>
            (m_Md_tellLack h0 x1 σ_25).bind fun σ_27 =>
            (oP σ_27 0 25 h0).bind fun q28 =>
            (oV σ_27 0 q28 x1).bind fun v29 =>
            some (v29, σ_27)
        else
          (oP σ_1 0 27 h0).bind fun q30 =>
          (oP σ_1 0 33 h0).bind fun q31 =>
          (oV σ_1 0 q31 r14).bind fun v32 =>
          (sV σ_1 0 q30 x1 v32).bind fun σ_33 =>
          m_Md_begin_L65 1000 h0 x1 r14 0 σ_33
def m_Md_keep_L46 : Nat → Nat → Int32 → Int32 → fr_S → Option (fr_S)
  | 0, _, _, _, _ => none
  | n + 1, b0, y1, y2, σ =>
    (oP σ 0 27 b0).bind fun q18 =>
    (oV σ 0 q18 y1).bind fun v19 =>
    if v19 ≤ y2 then
      (oI σ 0 8 b0).bind fun v21 =>
      (sI σ 0 8 b0 (v21 + 1)).bind fun σ_22 =>
      (oP σ_22 0 25 b0).bind fun q23 =>
      (sV σ_22 0 q23 y1 3).bind fun σ_24 =>
      some σ_24
    else
      (oP σ 0 34 b0).bind fun q25 =>
      (oI σ 0 8 b0).bind fun v26 =>
      (oP σ 0 28 b0).bind fun q27 =>
      (oV σ 0 q27 ((100 * y1) + y2)).bind fun v28 =>
      (sV σ 0 q25 ((100 * v26) + y2) v28).bind fun σ_29 =>
      m_Md_keep_L46 n b0 y1 (y2 + 1) σ_29
def m_Md_keep (h0 : Nat) (x1 : Int32) (σ : fr_S) : Option (fr_S) :=
  (oP σ 0 22 h0).bind fun q1 =>
  (oV σ 0 q1 x1).bind fun v2 =>
  (oK σ 0 h0).bind fun _ =>
  (m_Md_keptOf h0 v2 σ).bind fun r4 =>
  if r4 = (-1) then
    (oP σ 0 32 h0).bind fun q8 =>
    (oI σ 0 8 h0).bind fun v9 =>
    (oP σ 0 22 h0).bind fun q10 =>
    (oV σ 0 q10 x1).bind fun v11 =>
    (sV σ 0 q8 v9 v11).bind fun σ_12 =>
    (oP σ_12 0 33 h0).bind fun q13 =>
    (oI σ_12 0 8 h0).bind fun v14 =>
    (oP σ_12 0 27 h0).bind fun q15 =>
    (oV σ_12 0 q15 x1).bind fun v16 =>
    (sV σ_12 0 q13 v14 v16).bind fun σ_17 =>
    m_Md_keep_L46 1000 h0 x1 0 σ_17
  else
    (oP σ 0 25 h0).bind fun q6 =>
    (sV σ 0 q6 x1 3).bind fun σ_7 =>
    some σ_7
def m_Md_ask_L40 : Nat → Nat → Int32 → Int32 → Int32 → fr_S → Option (Int32 × fr_S)
  | 0, _, _, _, _, _ => none
  | n + 1, b0, y2, y3, y4, σ =>
    (oP σ 0 18 b0).bind fun q12 =>
    (oV σ 1 q12 y2).bind fun v13 =>
    if v13 = 0 then
      (oP σ 0 14 b0).bind fun q22 =>
      (oV σ 0 q22 y2).bind fun v23 =>
      if v23 = (-1) then
        (oP σ 0 18 b0).bind fun q25 =>
        (oV σ 1 q25 y2).bind fun v26 =>
        if v26 = 0 then
          (oP σ 0 19 b0).bind fun q28 =>
          (oV σ 1 q28 y2).bind fun v29 =>
          if v29 = 0 then
            some (y2, σ)
          else
            if y3 = 0 then
              some ((-1), σ)
            else
              some (y2, σ)
        else
          some ((-1), σ)
      else
        if y4 = 3 then
          some ((-1), σ)
        else
          (oP σ 0 14 b0).bind fun q33 =>
          (oV σ 0 q33 y2).bind fun v34 =>
          if y3 = 0 then
            (oP σ 0 5 b0).bind fun q36 =>
            (oP σ 0 11 b0).bind fun q37 =>
            (oV σ 0 q37 v34).bind fun v38 =>
            (oV σ 0 q36 v38).bind fun v39 =>
            (sV σ 0 q36 v38 (v39 + 0)).bind fun σ_41 =>
            m_Md_ask_L40 n b0 v34 0 (y4 + 1) σ_41
          else
            (oP σ 0 11 b0).bind fun q42 =>
            (oV σ 0 q42 v34).bind fun v43 =>
            (oP σ 0 11 b0).bind fun q44 =>
            (oV σ 0 q44 y2).bind fun v45 =>
            if v43 = v45 then
              (oP σ 0 5 b0).bind fun q53 =>
              (oP σ 0 11 b0).bind fun q54 =>
              (oV σ 0 q54 v34).bind fun v55 =>
              (oV σ 0 q53 v55).bind fun v56 =>
              (sV σ 0 q53 v55 (v56 + 1)).bind fun σ_58 =>
              m_Md_ask_L40 n b0 v34 1 (y4 + 1) σ_58
            else
              (oP σ 0 5 b0).bind fun q47 =>
              (oP σ 0 11 b0).bind fun q48 =>
              (oV σ 0 q48 v34).bind fun v49 =>
              (oV σ 0 q47 v49).bind fun v50 =>
              (sV σ 0 q47 v49 (v50 + 0)).bind fun σ_52 =>
              m_Md_ask_L40 n b0 v34 0 (y4 + 1) σ_52
    else
      (oP σ 0 18 b0).bind fun q15 =>
      (oV σ 1 q15 y2).bind fun v16 =>
      if v16 = 0 then
        (oP σ 0 19 b0).bind fun q18 =>
        (oV σ 1 q18 y2).bind fun v19 =>
        if v19 = 0 then
          some (y2, σ)
        else
          if y3 = 0 then
            some ((-1), σ)
          else
            some (y2, σ)
      else
        some ((-1), σ)
def m_Md_ask (h0 : Nat) (x1 : Int32) (σ : fr_S) : Option (Int32 × fr_S) :=
  (oP σ 0 4 h0).bind fun q1 =>
  (oP σ 0 11 h0).bind fun q2 =>
  (oV σ 0 q2 x1).bind fun v3 =>
  (oV σ 1 q1 v3).bind fun v4 =>
  (oP σ 0 5 h0).bind fun q5 =>
  (oP σ 0 11 h0).bind fun q6 =>
  (oV σ 0 q6 x1).bind fun v7 =>
  (oV σ 0 q5 v7).bind fun v8 =>
  if v4 = 0 then
    (sV σ 0 q5 v7 (v8 + 0)).bind fun σ_10 =>
    m_Md_ask_L40 1000 h0 x1 v4 0 σ_10
  else
    (sV σ 0 q5 v7 (v8 + 1)).bind fun σ_11 =>
    m_Md_ask_L40 1000 h0 x1 v4 0 σ_11
def m_Md_falter (h0 : Nat) (x1 : Int32) (σ : fr_S) : Option (fr_S) :=
  (oP σ 0 31 h0).bind fun q1 =>
  (oV σ 0 q1 x1).bind fun v2 =>
  (oI σ 0 0 h0).bind fun v3 =>
  if v2 = v3 then
    (oP σ 0 26 h0).bind fun q15 =>
    (oV σ 0 q15 x1).bind fun v16 =>
    (oK σ 0 h0).bind fun _ =>
    (m_Md_goOn h0 x1 ((v16 + 1)) σ).bind fun σ_18 =>
    some σ_18
  else
    (oP σ 0 25 h0).bind fun q5 =>
    (sV σ 0 q5 x1 2).bind fun σ_6 =>
    (oP σ_6 0 29 h0).bind fun q7 =>
    (oI σ_6 0 2 h0).bind fun v8 =>
    (oP σ_6 0 31 h0).bind fun q9 =>
    (oV σ_6 0 q9 x1).bind fun v10 =>
    (sV σ_6 0 q7 x1 (v8 + (1 <<< (v10 &&& 31)))).bind fun σ_11 =>
    (oP σ_11 0 31 h0).bind fun q12 =>
    (oV σ_11 0 q12 x1).bind fun v13 =>
    (sV σ_11 0 q12 x1 (v13 + 1)).bind fun σ_14 =>
    some σ_14
def m_Md_judge_L4 : Nat → Nat → Int32 → Int32 → Int32 → fr_S → Option (fr_S)
  | 0, _, _, _, _, _ => none
  | n + 1, b0, y1, y2, y3, σ =>
    (oP σ 0 27 b0).bind fun q1 =>
    (oV σ 0 q1 y1).bind fun v2 =>
    if v2 ≤ y3 then
      (oP σ 0 22 b0).bind fun q4 =>
      (oV σ 0 q4 y1).bind fun v5 =>
      if y2 = v5 then
        (oK σ 0 b0).bind fun _ =>
        (m_Md_keep b0 y1 σ).bind fun σ_29 =>
        some σ_29
      else
        (oP σ 0 24 b0).bind fun q7 =>
        (oP σ 0 26 b0).bind fun q8 =>
        (oV σ 0 q8 y1).bind fun v9 =>
        (oV σ 0 q7 ((6 * y1) + v9)).bind fun v10 =>
        (oP σ 0 21 b0).bind fun q11 =>
        (sV σ 1 q11 v10 (vp_nar .boolean 1)).bind fun σ_12 =>
        (oP σ_12 0 35 b0).bind fun q13 =>
        (oI σ_12 0 9 b0).bind fun v14 =>
        (sV σ_12 0 q13 v14 y1).bind fun σ_15 =>
        (oP σ_15 0 36 b0).bind fun q16 =>
        (oI σ_15 0 9 b0).bind fun v17 =>
        (sV σ_15 0 q16 v17 v10).bind fun σ_18 =>
        (oP σ_18 0 37 b0).bind fun q19 =>
        (oI σ_18 0 9 b0).bind fun v20 =>
        (sV σ_18 0 q19 v20 y2).bind fun σ_21 =>
        (oI σ_21 0 9 b0).bind fun v22 =>
        (sI σ_21 0 9 b0 (v22 + 1)).bind fun σ_23 =>
        (oP σ_23 0 26 b0).bind fun q24 =>
        (oV σ_23 0 q24 y1).bind fun v25 =>
        (oK σ_23 0 b0).bind fun _ =>
        (m_Md_goOn b0 y1 ((v25 + 1)) σ_23).bind fun σ_27 =>
        some σ_27
    else
      (oP σ 0 28 b0).bind fun q30 =>
      (oV σ 0 q30 ((100 * y1) + y3)).bind fun v31 =>
      (m_Md_next y2 v31 σ).bind fun r32 =>
      m_Md_judge_L4 n b0 y1 r32 (y3 + 1) σ
def m_Md_judge (h0 : Nat) (x1 : Int32) (σ : fr_S) : Option (fr_S) :=
  m_Md_judge_L4 1000 h0 x1 0 0 σ
def m_Md_turn_L122 : Nat → Nat → Int32 → Int32 → Int32 → Int32 → Int32 → fr_S → Option (fr_S)
  | 0, _, _, _, _, _, _, _ => none
  | n + 1, b0, y1, y2, y3, y4, y5, σ =>
    if y4 ≤ y5 then
      (oP σ 0 27 b0).bind fun q44 =>
      (oV σ 0 q44 y1).bind fun v45 =>
      (oP σ 0 13 b0).bind fun q46 =>
      (oV σ 0 q46 y2).bind fun v47 =>
      if v45 < v47 then
        if y3 = 0 then
          some σ
        else
          (oK σ 0 b0).bind fun _ =>
          (m_Md_falter b0 y1 σ).bind fun σ_51 =>
          some σ_51
      else
        (oK σ 0 b0).bind fun _ =>
        (m_Md_judge b0 y1 σ).bind fun σ_53 =>
        some σ_53
    else
      (oP σ 0 27 b0).bind fun q54 =>
      (oV σ 0 q54 y1).bind fun v55 =>
      (oP σ 0 13 b0).bind fun q56 =>
      (oV σ 0 q56 y2).bind fun v57 =>
      if v57 ≤ v55 then
        (oP σ 0 27 b0).bind fun q59 =>
        (oV σ 0 q59 y1).bind fun v60 =>
        (oP σ 0 13 b0).bind fun q61 =>
        (oV σ 0 q61 y2).bind fun v62 =>
        if v60 < v62 then
          if y3 = 0 then
            some σ
          else
            (oK σ 0 b0).bind fun _ =>
            (m_Md_falter b0 y1 σ).bind fun σ_66 =>
            some σ_66
        else
          (oK σ 0 b0).bind fun _ =>
          (m_Md_judge b0 y1 σ).bind fun σ_68 =>
          some σ_68
      else
        (oP σ 0 17 b0).bind fun q69 =>
        (oP σ 0 27 b0).bind fun q70 =>
        (oV σ 0 q70 y1).bind fun v71 =>
        (oV σ 0 q69 ((100 * y2) + v71)).bind fun v72 =>
        (oP σ 0 28 b0).bind fun q73 =>
        (oP σ 0 27 b0).bind fun q74 =>
        (oV σ 0 q74 y1).bind fun v75 =>
        (oP σ 0 27 b0).bind fun q76 =>
        (oV σ 0 q76 y1).bind fun v77 =>
        if v77 = 0 then
          (oP σ 0 20 b0).bind fun q83 =>
          (oV σ 1 q83 y2).bind fun v84 =>
          if v84 = 0 then
            (sV σ 0 q73 ((100 * y1) + v75) v72).bind fun σ_86 =>
            (oP σ_86 0 27 b0).bind fun q87 =>
            (oV σ_86 0 q87 y1).bind fun v88 =>
            (sV σ_86 0 q87 y1 (v88 + 1)).bind fun σ_89 =>
            m_Md_turn_L122 n b0 y1 y2 y3 y4 (y5 + 1) σ_89
          else
            (sV σ 0 q73 ((100 * y1) + v75) (v72 ^^^ 1)).bind fun σ_90 =>
            (oP σ_90 0 27 b0).bind fun q91 =>
            (oV σ_90 0 q91 y1).bind fun v92 =>
            (sV σ_90 0 q91 y1 (v92 + 1)).bind fun σ_93 =>
            m_Md_turn_L122 n b0 y1 y2 y3 y4 (y5 + 1) σ_93
        else
          (sV σ 0 q73 ((100 * y1) + v75) v72).bind fun σ_79 =>
          (oP σ_79 0 27 b0).bind fun q80 =>
          (oV σ_79 0 q80 y1).bind fun v81 =>
          (sV σ_79 0 q80 y1 (v81 + 1)).bind fun σ_82 =>
          m_Md_turn_L122 n b0 y1 y2 y3 y4 (y5 + 1) σ_82
def m_Md_turn (h0 : Nat) (x1 : Int32) (σ : fr_S) : Option (fr_S) :=
  (oP σ 0 30 h0).bind fun q1 =>
  (oV σ 0 q1 x1).bind fun v2 =>
  (sV σ 0 q1 x1 (v2 + 1)).bind fun σ_3 =>
  (oP σ_3 0 24 h0).bind fun q4 =>
  (oP σ_3 0 26 h0).bind fun q5 =>
  (oV σ_3 0 q5 x1).bind fun v6 =>
  (oV σ_3 0 q4 ((6 * x1) + v6)).bind fun v7 =>
  (oK σ_3 0 h0).bind fun _ =>
  (m_Md_ask h0 v7 σ_3).bind fun w9 =>
  if w9.1 = (-1) then
    (oP w9.2 0 26 h0).bind fun q39 =>
    (oV w9.2 0 q39 x1).bind fun v40 =>
    (oK w9.2 0 h0).bind fun _ =>
    (m_Md_goOn h0 x1 ((v40 + 1)) w9.2).bind fun σ_42 =>
    some σ_42
  else
    (oP w9.2 0 15 h0).bind fun q11 =>
    (oV w9.2 0 q11 w9.1).bind fun v12 =>
    if v12 ≤ 0 then
      (oP w9.2 0 12 h0).bind fun q15 =>
      (oV w9.2 0 q15 w9.1).bind fun v16 =>
      (oP w9.2 0 15 h0).bind fun q17 =>
      (oV w9.2 0 q17 w9.1).bind fun v18 =>
      (sV w9.2 0 q17 w9.1 (v18 - 0)).bind fun σ_20 =>
      m_Md_turn_L122 1000 h0 x1 w9.1 0 v16 0 σ_20
    else
      (oP w9.2 0 16 h0).bind fun q22 =>
      (oV w9.2 0 q22 w9.1).bind fun v23 =>
      (oP w9.2 0 12 h0).bind fun q24 =>
      (oV w9.2 0 q24 w9.1).bind fun v25 =>
      if v25 ≤ v23 then
        (oP w9.2 0 12 h0).bind fun q27 =>
        (oV w9.2 0 q27 w9.1).bind fun v28 =>
        (oP w9.2 0 15 h0).bind fun q29 =>
        (oV w9.2 0 q29 w9.1).bind fun v30 =>
        (sV w9.2 0 q29 w9.1 (v30 - 1)).bind fun σ_32 =>
        m_Md_turn_L122 1000 h0 x1 w9.1 1 v28 0 σ_32
      else
        (oP w9.2 0 16 h0).bind fun q33 =>
        (oV w9.2 0 q33 w9.1).bind fun v34 =>
        (oP w9.2 0 15 h0).bind fun q35 =>
        (oV w9.2 0 q35 w9.1).bind fun v36 =>
        (sV w9.2 0 q35 w9.1 (v36 - 1)).bind fun σ_38 =>
        m_Md_turn_L122 1000 h0 x1 w9.1 1 v34 0 σ_38
def m_Md_tick_L36 : Nat → Nat → Int32 → Int32 → Int32 → fr_S → Option (fr_S)
  | 0, _, _, _, _, _ => none
  | n + 1, b0, y1, y2, y3, σ =>
    (oI σ 0 7 b0).bind fun v16 =>
    if v16 ≤ y3 then
      some σ
    else
      (oP σ 0 25 b0).bind fun q18 =>
      (oV σ 0 q18 y3).bind fun v19 =>
      if v19 = 2 then
        (oP σ 0 29 b0).bind fun q26 =>
        (oV σ 0 q26 y3).bind fun v27 =>
        (oI σ 0 2 b0).bind fun v28 =>
        if v28 < v27 then
          (oP σ 0 25 b0).bind fun q30 =>
          (oV σ 0 q30 y3).bind fun v31 =>
          if v31 = 1 then
            (oK σ 0 b0).bind fun _ =>
            (m_Md_turn b0 y3 σ).bind fun σ_34 =>
            m_Md_tick_L36 n b0 y1 y2 (y3 + 1) σ_34
          else
            m_Md_tick_L36 n b0 y1 y2 (y3 + 1) σ
        else
          (oP σ 0 25 b0).bind fun q35 =>
          (sV σ 0 q35 y3 1).bind fun σ_36 =>
          (oP σ_36 0 25 b0).bind fun q37 =>
          (oV σ_36 0 q37 y3).bind fun v38 =>
          if v38 = 1 then
            (oK σ_36 0 b0).bind fun _ =>
            (m_Md_turn b0 y3 σ_36).bind fun σ_41 =>
            m_Md_tick_L36 n b0 y1 y2 (y3 + 1) σ_41
          else
            m_Md_tick_L36 n b0 y1 y2 (y3 + 1) σ_36
      else
        (oP σ 0 25 b0).bind fun q21 =>
        (oV σ 0 q21 y3).bind fun v22 =>
        if v22 = 1 then
          (oK σ 0 b0).bind fun _ =>
          (m_Md_turn b0 y3 σ).bind fun σ_25 =>
          m_Md_tick_L36 n b0 y1 y2 (y3 + 1) σ_25
        else
          m_Md_tick_L36 n b0 y1 y2 (y3 + 1) σ
def m_Md_tick_L105 : Nat → Nat → Int32 → Int32 → fr_S → Option (Int32 × fr_S)
  | 0, _, _, _, _ => none
  | n + 1, b0, y2, y3, σ =>
    (oI σ 0 7 b0).bind fun v8 =>
    if v8 ≤ y3 then
      some (y2, σ)
    else
      (oP σ 0 25 b0).bind fun q10 =>
      (oV σ 0 q10 y3).bind fun v11 =>
      if v11 = 1 then
        m_Md_tick_L105 n b0 (y2 + 1) (y3 + 1) σ
      else
        (oP σ 0 25 b0).bind fun q13 =>
        (oV σ 0 q13 y3).bind fun v14 =>
        if v14 = 2 then
          m_Md_tick_L105 n b0 (y2 + 1) (y3 + 1) σ
        else
          m_Md_tick_L105 n b0 (y2 + 0) (y3 + 1) σ
def m_Md_tick_L19 : Nat → Nat → Int32 → Int32 → fr_S → Option (Int32 × fr_S)
  | 0, _, _, _, _ => none
  | n + 1, b0, y1, y2, σ =>
    if y1 ≤ y2 then
      m_Md_tick_L105 1000 b0 0 0 σ
    else
      (oI σ 0 2 b0).bind fun v5 =>
      (sI σ 0 2 b0 (v5 + 1)).bind fun σ_6 =>
      (m_Md_tick_L36 1000 b0 y1 y2 0 σ_6).bind fun σ_7 =>
      m_Md_tick_L19 n b0 y1 (y2 + 1) σ_7
def m_Md_tick (h0 : Nat) (x1 : Int32) (σ : fr_S) : Option (Int32 × fr_S) :=
  (sI σ 0 1 h0 0).bind fun σ_1 =>
  if x1 < 0 then
    some ((-1), σ_1)
  else
    if x1 ≤ 50 then
      m_Md_tick_L19 1000 h0 x1 0 σ_1
    else
      some ((-1), σ_1)
def m_Md_about (h0 : Nat) (x1 : Int32) (x2 : Int32) (σ : fr_S) : Option (Int32 × fr_S) :=
  (sI σ 0 1 h0 0).bind fun σ_1 =>
  (oK σ_1 0 h0).bind fun _ =>
  (m_Md_isWant h0 x1 σ_1).bind fun r3 =>
  if r3 = 0 then
    some ((-1), σ_1)
  else
    (oP σ_1 0 25 h0).bind fun q5 =>
    (oV σ_1 0 q5 x1).bind fun v6 =>
    if v6 = 1 then
      if x2 = 0 then
        (oP σ_1 0 25 h0).bind fun q9 =>
        (oV σ_1 0 q9 x1).bind fun v10 =>
        some (v10, σ_1)
      else
      if x2 = 1 then
        (oP σ_1 0 24 h0).bind fun q13 =>
        (oP σ_1 0 26 h0).bind fun q14 =>
        (oV σ_1 0 q14 x1).bind fun v15 =>
        (oV σ_1 0 q13 ((6 * x1) + v15)).bind fun v16 =>
        some (v16, σ_1)
      else
      if x2 = 2 then
        (oP σ_1 0 27 h0).bind fun q18 =>
        (oV σ_1 0 q18 x1).bind fun v19 =>
        some (v19, σ_1)
      else
      if x2 = 3 then
        (oP σ_1 0 25 h0).bind fun q21 =>
        (oV σ_1 0 q21 x1).bind fun v22 =>
        if v22 = 2 then
          (oP σ_1 0 29 h0).bind fun q24 =>
          (oV σ_1 0 q24 x1).bind fun v25 =>
          some (v25, σ_1)
        else
          some ((-1), σ_1)
      else
      if x2 = 4 then
        (oP σ_1 0 30 h0).bind fun q27 =>
        (oV σ_1 0 q27 x1).bind fun v28 =>
        some (v28, σ_1)
      else
        some ((-1), σ_1)
    else
      (oP σ_1 0 25 h0).bind fun q29 =>
      (oV σ_1 0 q29 x1).bind fun v30 =>
      if v30 = 2 then
        if x2 = 0 then
          (oP σ_1 0 25 h0).bind fun q50 =>
          (oV σ_1 0 q50 x1).bind fun v51 =>
          some (v51, σ_1)
        else
        if x2 = 1 then
          (oP σ_1 0 24 h0).bind fun q54 =>
          (oP σ_1 0 26 h0).bind fun q55 =>
          (oV σ_1 0 q55 x1).bind fun v56 =>
          (oV σ_1 0 q54 ((6 * x1) + v56)).bind fun v57 =>
          some (v57, σ_1)
        else
        if x2 = 2 then
          (oP σ_1 0 27 h0).bind fun q59 =>
          (oV σ_1 0 q59 x1).bind fun v60 =>
          some (v60, σ_1)
        else
        if x2 = 3 then
          (oP σ_1 0 25 h0).bind fun q62 =>
          (oV σ_1 0 q62 x1).bind fun v63 =>
          if v63 = 2 then
            (oP σ_1 0 29 h0).bind fun q65 =>
            (oV σ_1 0 q65 x1).bind fun v66 =>
            some (v66, σ_1)
          else
            some ((-1), σ_1)
        else
        if x2 = 4 then
          (oP σ_1 0 30 h0).bind fun q68 =>
          (oV σ_1 0 q68 x1).bind fun v69 =>
          some (v69, σ_1)
        else
          some ((-1), σ_1)
      else
        if x2 = 0 then
          (oP σ_1 0 25 h0).bind fun q33 =>
          (oV σ_1 0 q33 x1).bind fun v34 =>
          some (v34, σ_1)
        else
        if x2 = 1 then
          some ((-1), σ_1)
        else
        if x2 = 2 then
          (oP σ_1 0 27 h0).bind fun q38 =>
          (oV σ_1 0 q38 x1).bind fun v39 =>
          some (v39, σ_1)
        else
        if x2 = 3 then
          (oP σ_1 0 25 h0).bind fun q41 =>
          (oV σ_1 0 q41 x1).bind fun v42 =>
          if v42 = 2 then
            (oP σ_1 0 29 h0).bind fun q44 =>
            (oV σ_1 0 q44 x1).bind fun v45 =>
            some (v45, σ_1)
          else
            some ((-1), σ_1)
        else
        if x2 = 4 then
          (oP σ_1 0 30 h0).bind fun q47 =>
          (oV σ_1 0 q47 x1).bind fun v48 =>
          some (v48, σ_1)
        else
          some ((-1), σ_1)
def m_Md_byteOf (h0 : Nat) (x1 : Int32) (x2 : Int32) (σ : fr_S) : Option (Int32 × fr_S) :=
  (sI σ 0 1 h0 0).bind fun σ_1 =>
  (oK σ_1 0 h0).bind fun _ =>
  (m_Md_isWant h0 x1 σ_1).bind fun r3 =>
  if r3 = 0 then
    some ((-1), σ_1)
  else
    if x2 < 0 then
      some ((-1), σ_1)
    else
      (oP σ_1 0 27 h0).bind fun q6 =>
      (oV σ_1 0 q6 x1).bind fun v7 =>
      if x2 < v7 then
        (oP σ_1 0 28 h0).bind fun q9 =>
        (oV σ_1 0 q9 ((100 * x1) + x2)).bind fun v10 =>
        some (v10, σ_1)
      else
        some ((-1), σ_1)
def m_Md_barred (h0 : Nat) (x1 : Int32) (x2 : Int32) (σ : fr_S) : Option (Int32 × fr_S) :=
  (sI σ 0 1 h0 0).bind fun σ_1 =>
  if x1 < 0 then
    some ((-1), σ_1)
  else
    (oI σ_1 0 9 h0).bind fun v3 =>
    if x1 < v3 then
      if x2 = 0 then
        (oP σ_1 0 35 h0).bind fun q9 =>
        (oV σ_1 0 q9 x1).bind fun v10 =>
        some (v10, σ_1)
      else
        if x2 = 1 then
          (oP σ_1 0 36 h0).bind fun q7 =>
          (oV σ_1 0 q7 x1).bind fun v8 =>
          some (v8, σ_1)
        else
          some ((-1), σ_1)
    else
      some ((-1), σ_1)
def m_Md_came (h0 : Nat) (x1 : Int32) (σ : fr_S) : Option (Int32 × fr_S) :=
  (sI σ 0 1 h0 0).bind fun σ_1 =>
  if x1 < 0 then
    some (0, σ_1)
  else
    (oI σ_1 0 9 h0).bind fun v3 =>
    if x1 < v3 then
      (oP σ_1 0 37 h0).bind fun q5 =>
      (oV σ_1 0 q5 x1).bind fun v6 =>
      some (v6, σ_1)
    else
      some (0, σ_1)
def m_Md_lacks (h0 : Nat) (x1 : Int32) (σ : fr_S) : Option (Int32 × fr_S) :=
  (sI σ 0 1 h0 0).bind fun σ_1 =>
  if x1 < 0 then
    some ((-1), σ_1)
  else
    (oI σ_1 0 10 h0).bind fun v3 =>
    if x1 < v3 then
      (oP σ_1 0 38 h0).bind fun q5 =>
      (oV σ_1 0 q5 x1).bind fun v6 =>
      some (v6, σ_1)
    else
      some ((-1), σ_1)
def m_Md_sent (h0 : Nat) (x1 : Int32) (σ : fr_S) : Option (Int32 × fr_S) :=
  (sI σ 0 1 h0 0).bind fun σ_1 =>
  if x1 < 0 then
    some (0, σ_1)
  else
    if x1 < 8 then
      (oP σ_1 0 5 h0).bind fun q4 =>
      (oV σ_1 0 q4 x1).bind fun v5 =>
      some (v5, σ_1)
    else
      some (0, σ_1)
def m_Md_isSign (x0 : Int32) (σ : fr_S) : Option (Int32) :=
  if x0 < 97 then
    if x0 < 48 then
      if x0 = 46 then
        some 1
      else
        if x0 = 47 then
          some 1
        else
          some 0
    else
      if x0 ≤ 57 then
        some 1
      else
        if x0 = 46 then
          some 1
        else
          if x0 = 47 then
            some 1
          else
            some 0
  else
    if x0 ≤ 122 then
      some 1
    else
      if x0 < 48 then
        if x0 = 46 then
          some 1
        else
          if x0 = 47 then
            some 1
          else
            some 0
      else
        if x0 ≤ 57 then
          some 1
        else
          if x0 = 46 then
            some 1
          else
            if x0 = 47 then
              some 1
            else
              some 0
def m_Md_isRight_L8 : Nat → Nat → Int32 → Int32 → Int32 → Int32 → fr_S → Option (Int32)
  | 0, _, _, _, _, _, _ => none
  | n + 1, b0, y2, y3, y4, y5, σ =>
    if y2 < y5 then
      some 1
    else
      if y2 ≤ y5 then
        (m_Md_isSign 47 σ).bind fun r3 =>
        if r3 = 0 then
          some 0
        else
          if y3 = 0 then
            some 0
          else
            if y3 = y4 then
              if 3 ≤ y3 then
                m_Md_isRight_L8 n b0 y2 0 0 (y5 + 1) σ
              else
                some 0
            else
              m_Md_isRight_L8 n b0 y2 0 0 (y5 + 1) σ
      else
        (oP σ 0 28 b0).bind fun q9 =>
        (oV σ 0 q9 y5).bind fun v10 =>
        (m_Md_isSign v10 σ).bind fun r11 =>
        if r11 = 0 then
          some 0
        else
          if v10 = 47 then
            if y3 = 0 then
              some 0
            else
              if y3 = y4 then
                if 3 ≤ y3 then
                  m_Md_isRight_L8 n b0 y2 0 0 (y5 + 1) σ
                else
                  some 0
              else
                m_Md_isRight_L8 n b0 y2 0 0 (y5 + 1) σ
          else
            if v10 = 46 then
              m_Md_isRight_L8 n b0 y2 (y3 + 1) (y4 + 1) (y5 + 1) σ
            else
              m_Md_isRight_L8 n b0 y2 (y3 + 1) (y4 + 0) (y5 + 1) σ
def m_Md_isRight (h0 : Nat) (x1 : Int32) (x2 : Int32) (σ : fr_S) : Option (Int32) :=
  m_Md_isRight_L8 1000 h0 x2 0 0 x1 σ
def m_Md_strip_L6 : Nat → Nat → Int32 → Int32 → Int32 → fr_S → Option (Int32)
  | 0, _, _, _, _, _ => none
  | n + 1, b0, y2, y4, y5, σ =>
    if y4 ≤ 0 then
      if y4 ≤ 0 then
        some y5
      else
        some y2
    else
      if y2 ≤ y5 then
        if y4 ≤ 0 then
          some y5
        else
          some y2
      else
        (oP σ 0 28 b0).bind fun q5 =>
        (oV σ 0 q5 y5).bind fun v6 =>
        if v6 = 47 then
          m_Md_strip_L6 n b0 y2 (y4 - 1) (y5 + 1) σ
        else
          m_Md_strip_L6 n b0 y2 (y4 - 0) (y5 + 1) σ
def m_Md_strip (h0 : Nat) (x1 : Int32) (x2 : Int32) (x3 : Int32) (σ : fr_S) : Option (Int32) :=
  m_Md_strip_L6 1000 h0 x2 x3 x1 σ
def m_Md_isSamePath_L16 : Nat → Nat → Int32 → Int32 → Int32 → Int32 → Int32 → fr_S → Option (Int32)
  | 0, _, _, _, _, _, _, _ => none
  | n + 1, b0, y1, y2, y3, y5, y6, σ =>
    if y2 ≤ y6 then
      (oZ y5).bind fun _ =>
      some y5
    else
      if y5 = 0 then
        (oZ y5).bind fun _ =>
        some y5
      else
        (oP σ 0 28 b0).bind fun q6 =>
        (oV σ 0 q6 (y1 + y6)).bind fun v7 =>
        (oP σ 0 28 b0).bind fun q8 =>
        (oV σ 0 q8 (y3 + y6)).bind fun v9 =>
        if v7 = v9 then
          m_Md_isSamePath_L16 n b0 y1 y2 y3 1 (y6 + 1) σ
        else
          m_Md_isSamePath_L16 n b0 y1 y2 y3 0 (y6 + 1) σ
def m_Md_isSamePath (h0 : Nat) (x1 : Int32) (x2 : Int32) (x3 : Int32) (x4 : Int32) (σ : fr_S) : Option (Int32) :=
  if x2 = x4 then
    m_Md_isSamePath_L16 1000 h0 x1 x2 x3 1 0 σ
  else
    m_Md_isSamePath_L16 1000 h0 x1 x2 x3 0 0 σ
def m_Md_putFile_L3 : Nat → Nat → Int32 → Int32 → Int32 → Int32 → Int32 → Int32 → fr_S → Option (fr_S)
  | 0, _, _, _, _, _, _, _, _ => none
  | n + 1, b0, y1, y2, y3, y4, y5, y6, σ =>
    (oI σ 0 39 b0).bind fun v1 =>
    if v1 ≤ y6 then
      (oI σ 0 39 b0).bind fun v3 =>
      if y6 = v3 then
        (oP σ 0 42 b0).bind fun q9 =>
        (sV σ 0 q9 y6 (y2 - y1)).bind fun σ_10 =>
        (oP σ_10 0 43 b0).bind fun q11 =>
        (sV σ_10 0 q11 y6 (y3 - y2)).bind fun σ_12 =>
        (oI σ_12 0 39 b0).bind fun v13 =>
        (sI σ_12 0 39 b0 (v13 + 1)).bind fun σ_14 =>
        (oP σ_14 0 40 b0).bind fun q15 =>
        (sV σ_14 0 q15 y6 (y4 - y1)).bind fun σ_16 =>
        (oP σ_16 0 41 b0).bind fun q17 =>
        (sV σ_16 0 q17 y6 y5).bind fun σ_18 =>
        some σ_18
      else
        (oP σ 0 40 b0).bind fun q5 =>
        (sV σ 0 q5 y6 (y4 - y1)).bind fun σ_6 =>
        (oP σ_6 0 41 b0).bind fun q7 =>
        (sV σ_6 0 q7 y6 y5).bind fun σ_8 =>
        some σ_8
    else
      (oP σ 0 42 b0).bind fun q19 =>
      (oV σ 0 q19 y6).bind fun v20 =>
      (oP σ 0 43 b0).bind fun q21 =>
      (oV σ 0 q21 y6).bind fun v22 =>
      (oK σ 0 b0).bind fun _ =>
      (m_Md_isSamePath b0 ((y1 + v20)) v22 y2 ((y3 - y2)) σ).bind fun r24 =>
      if r24 = 0 then
        m_Md_putFile_L3 n b0 y1 y2 y3 y4 y5 (y6 + 1) σ
      else
        (oI σ 0 39 b0).bind fun v26 =>
        if y6 = v26 then
          (oP σ 0 42 b0).bind fun q32 =>
          (sV σ 0 q32 y6 (y2 - y1)).bind fun σ_33 =>
          (oP σ_33 0 43 b0).bind fun q34 =>
          (sV σ_33 0 q34 y6 (y3 - y2)).bind fun σ_35 =>
          (oI σ_35 0 39 b0).bind fun v36 =>
          (sI σ_35 0 39 b0 (v36 + 1)).bind fun σ_37 =>
          (oP σ_37 0 40 b0).bind fun q38 =>
          (sV σ_37 0 q38 y6 (y4 - y1)).bind fun σ_39 =>
          (oP σ_39 0 41 b0).bind fun q40 =>
          (sV σ_39 0 q40 y6 y5).bind fun σ_41 =>
          some σ_41
        else
          (oP σ 0 40 b0).bind fun q28 =>
          (sV σ 0 q28 y6 (y4 - y1)).bind fun σ_29 =>
          (oP σ_29 0 41 b0).bind fun q30 =>
          (sV σ_29 0 q30 y6 y5).bind fun σ_31 =>
          some σ_31
def m_Md_putFile (h0 : Nat) (x1 : Int32) (x2 : Int32) (x3 : Int32) (x4 : Int32) (x5 : Int32) (σ : fr_S) : Option (fr_S) :=
  m_Md_putFile_L3 1000 h0 x1 x2 x3 x4 x5 0 σ
def m_Md_read_L21 : Nat → Nat → Int32 → Int32 → Int32 → Int32 → Int32 → Int32 → fr_S → Option (Int32 × fr_S)
  | 0, _, _, _, _, _, _, _, _ => none
  | n + 1, b0, y1, y2, y3, y4, y5, y6, σ =>
    if y5 ≤ y6 then
      some ((-1), σ)
    else
      (oP σ 0 28 b0).bind fun q4 =>
      (oV σ 0 q4 y6).bind fun v5 =>
      if v5 < 1 then
        some ((y6 - y4), σ)
      else
        if v5 ≤ 20 then
          if ((y6 + 1) + v5) < y5 then
            (oK σ 0 b0).bind fun _ =>
            (m_Md_isRight b0 ((y6 + 1)) (((y6 + 1) + v5)) σ).bind fun r10 =>
            if r10 = 0 then
              some (((y6 + 1) - y4), σ)
            else
              (oP σ 0 28 b0).bind fun q12 =>
              (oV σ 0 q12 ((y6 + 1) + v5)).bind fun v13 =>
              if ((((y6 + 1) + v5) + 1) + v13) ≤ y5 then
                (oK σ 0 b0).bind fun _ =>
                (m_Md_strip b0 ((y6 + 1)) (((y6 + 1) + v5)) y2 σ).bind fun r16 =>
                if y3 = 0 then
                  m_Md_read_L21 n b0 y1 y2 y3 y4 y5 ((((y6 + 1) + v5) + 1) + v13) σ
                else
                  if ((y6 + 1) + v5) ≤ r16 then
                    m_Md_read_L21 n b0 y1 y2 y3 y4 y5 ((((y6 + 1) + v5) + 1) + v13) σ
                  else
                    (oK σ 0 b0).bind fun _ =>
                    (m_Md_putFile b0 y4 r16 (((y6 + 1) + v5)) ((((y6 + 1) + v5) + 1)) v13 σ).bind fun σ_20 =>
                    m_Md_read_L21 n b0 y1 y2 y3 y4 y5 ((((y6 + 1) + v5) + 1) + v13) σ_20
              else
                (oP σ 0 27 b0).bind fun q21 =>
                (oV σ 0 q21 y1).bind fun v22 =>
                some (v22, σ)
          else
            (oP σ 0 27 b0).bind fun q23 =>
            (oV σ 0 q23 y1).bind fun v24 =>
            some (v24, σ)
        else
          some ((y6 - y4), σ)
def m_Md_read (h0 : Nat) (x1 : Int32) (x2 : Int32) (x3 : Int32) (σ : fr_S) : Option (Int32 × fr_S) :=
  (oP σ 0 27 h0).bind fun q1 =>
  (oV σ 0 q1 x1).bind fun v2 =>
  m_Md_read_L21 1000 h0 x1 x2 x3 (100 * x1) ((100 * x1) + v2) (100 * x1) σ
def m_Md_unpack (h0 : Nat) (x1 : Int32) (x2 : Int32) (σ : fr_S) : Option (Int32 × fr_S) :=
  (sI σ 0 1 h0 0).bind fun σ_1 =>
  (oK σ_1 0 h0).bind fun _ =>
  (m_Md_isWant h0 x1 σ_1).bind fun r3 =>
  if r3 = 0 then
    some ((-1000), σ_1)
  else
    (oP σ_1 0 25 h0).bind fun q5 =>
    (oV σ_1 0 q5 x1).bind fun v6 =>
    if v6 = 3 then
      if x2 < 0 then
        some ((-1000), σ_1)
      else
        if x2 ≤ 5 then
          (oK σ_1 0 h0).bind fun _ =>
          (m_Md_read h0 x1 x2 0 σ_1).bind fun w11 =>
          if w11.1 = (-1) then
            (sI w11.2 0 39 h0 0).bind fun σ_13 =>
            (oK σ_13 0 h0).bind fun _ =>
            (m_Md_read h0 x1 x2 1 σ_13).bind fun w15 =>
            (oI w15.2 0 39 h0).bind fun v16 =>
            some (v16, w15.2)
          else
            some (((-1) - w11.1), w11.2)
        else
          some ((-1000), σ_1)
    else
      some ((-1000), σ_1)
def m_Md_file (h0 : Nat) (x1 : Int32) (x2 : Int32) (σ : fr_S) : Option (Int32 × fr_S) :=
  (sI σ 0 1 h0 0).bind fun σ_1 =>
  if x1 < 0 then
    some ((-1), σ_1)
  else
    (oI σ_1 0 39 h0).bind fun v3 =>
    if x1 < v3 then
      if x2 = 0 then
        (oP σ_1 0 40 h0).bind fun q15 =>
        (oV σ_1 0 q15 x1).bind fun v16 =>
        some (v16, σ_1)
      else
        if x2 = 1 then
          (oP σ_1 0 41 h0).bind fun q13 =>
          (oV σ_1 0 q13 x1).bind fun v14 =>
          some (v14, σ_1)
        else
          if x2 = 2 then
            (oP σ_1 0 42 h0).bind fun q11 =>
            (oV σ_1 0 q11 x1).bind fun v12 =>
            some (v12, σ_1)
          else
            if x2 = 3 then
              (oP σ_1 0 43 h0).bind fun q9 =>
              (oV σ_1 0 q9 x1).bind fun v10 =>
              some (v10, σ_1)
            else
              some ((-1), σ_1)
    else
      some ((-1), σ_1)
