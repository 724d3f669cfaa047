def m_FR_isHost (x0 : Int32) (σ : fr_S) : Option (Int32) :=
  if x0 < 0 then
    some 0
  else
    if 8 ≤ x0 then
      some 0
    else
      some 1
def m_FR_credential (h0 : Nat) (x1 : Int32) (x2 : Int32) (σ : fr_S) : Option (Int32 × fr_S) :=
  (m_FR_isHost x1 σ).bind fun r1 =>
  if r1 = 0 then
    some (0, σ)
  else
    (oP σ 1 65 h0).bind fun q3 =>
    (sV σ 1 q3 x1 (vp_nar .boolean x2)).bind fun σ_4 =>
    some (1, σ_4)
def m_FR_place (h0 : Nat) (x1 : Int32) (x2 : Int32) (σ : fr_S) : Option (Int32 × fr_S) :=
  (oI σ 1 68 h0).bind fun v1 =>
  if 16 ≤ v1 then
    some ((-1), σ)
  else
    (m_FR_isHost x1 σ).bind fun r3 =>
    if r3 = 0 then
      some ((-1), σ)
    else
      if x2 < 1 then
        some ((-1), σ)
      else
        if x2 ≤ 50 then
          (oP σ 1 67 h0).bind fun q7 =>
          (oI σ 1 68 h0).bind fun v8 =>
          (oQ σ 2 q7 v8).bind fun q9 =>
          (sI σ 3 193 q9 x1).bind fun σ_10 =>
          (sI σ_10 3 194 q9 x2).bind fun σ_11 =>
          (oI σ_11 1 68 h0).bind fun v12 =>
          (sI σ_11 1 68 h0 (v12 + 1)).bind fun σ_13 =>
          some (v12, σ_13)
        else
          some ((-1), σ)
def m_FR_isPlace (h0 : Nat) (x1 : Int32) (σ : fr_S) : Option (Int32) :=
  if x1 < 0 then
    some 0
  else
    (oI σ 1 68 h0).bind fun v2 =>
    if v2 ≤ x1 then
      some 0
    else
      some 1
def m_Row_append (h0 : Nat) (x1 : Int32) (σ : fr_S) : Option (fr_S) :=
  (oI σ 4 257 h0).bind fun v1 =>
  if 100 ≤ v1 then
    some σ
  else
    (oP σ 4 256 h0).bind fun q3 =>
    (oI σ 4 257 h0).bind fun v4 =>
    (sI σ 4 257 h0 (v4 + 1)).bind fun σ_5 =>
    (sV σ_5 0 q3 v4 x1).bind fun σ_6 =>
    some σ_6
def m_FR_content_L55 : Nat → Int64 → Nat → Int32 → fr_S → Option (Int32 × fr_S)
  | 0, _, _, _, _ => none
  | n + 1, y2, b5, y6, σ =>
    if y6 < 0 then
      some (1, σ)
    else
      (oK σ 4 b5).bind fun _ =>
      (m_Row_append b5 (((fr_lushr y2 (8 * y6)).toInt32 &&& 255)) σ).bind fun σ_13 =>
      m_FR_content_L55 n y2 b5 (y6 + (-1)) σ_13
def m_FR_content (h0 : Nat) (x1 : Int32) (x2 : Int64) (x4 : Int32) (σ : fr_S) : Option (Int32 × fr_S) :=
  (oK σ 1 h0).bind fun _ =>
  (m_FR_isPlace h0 x1 σ).bind fun r2 =>
  if r2 = 0 then
    some (0, σ)
  else
    if x4 < 1 then
      some (0, σ)
    else
      if x4 ≤ 8 then
        (oP σ 1 67 h0).bind fun q6 =>
        (oQ σ 2 q6 x1).bind fun q7 =>
        (oP σ 3 192 q7).bind fun q8 =>
        (oI σ 4 257 q8).bind fun v9 =>
        if (v9 + x4) ≤ 100 then
          m_FR_content_L55 1000 x2 q8 (x4 - 1) σ
        else
          some (0, σ)
      else
        some (0, σ)
def m_FR_does (h0 : Nat) (x1 : Int32) (x2 : Int32) (x3 : Int32) (σ : fr_S) : Option (Int32 × fr_S) :=
  (oK σ 1 h0).bind fun _ =>
  (m_FR_isPlace h0 x1 σ).bind fun r2 =>
  if r2 = 0 then
    some (0, σ)
  else
    (oP σ 1 67 h0).bind fun q4 =>
    (oQ σ 2 q4 x1).bind fun q5 =>
    if x2 = 0 then
      if x3 = 0 then
        (sZ σ 3 198 q5 0).bind fun σ_8 =>
        some (1, σ_8)
      else
        (sZ σ 3 198 q5 1).bind fun σ_9 =>
        some (1, σ_9)
    else
    if x2 = 1 then
      if x3 = (-1) then
        (sI σ 3 195 q5 x3).bind fun σ_12 =>
        some (1, σ_12)
      else
        (oK σ 1 h0).bind fun _ =>
        (m_FR_isPlace h0 x3 σ).bind fun r14 =>
        if r14 = 0 then
          some (0, σ)
        else
          (sI σ 3 195 q5 x3).bind fun σ_16 =>
          some (1, σ_16)
    else
    if x2 = 2 then
      if x3 = 0 then
        (sZ σ 3 199 q5 0).bind fun σ_19 =>
        some (1, σ_19)
      else
        (sZ σ 3 199 q5 1).bind fun σ_20 =>
        some (1, σ_20)
    else
    if x2 = 3 then
      if x3 = 0 then
        (sZ σ 3 200 q5 0).bind fun σ_23 =>
        some (1, σ_23)
      else
        (sZ σ 3 200 q5 1).bind fun σ_24 =>
        some (1, σ_24)
    else
      some (0, σ)
def m_FR_cut (h0 : Nat) (x1 : Int32) (x2 : Int32) (x3 : Int32) (σ : fr_S) : Option (Int32 × fr_S) :=
  (oK σ 1 h0).bind fun _ =>
  (m_FR_isPlace h0 x1 σ).bind fun r2 =>
  if r2 = 0 then
    some (0, σ)
  else
    if x2 < 0 then
      some (0, σ)
    else
      if 9 < x2 then
        some (0, σ)
      else
        if x3 < 0 then
          some (0, σ)
        else
          if x3 ≤ 100 then
            (oP σ 1 67 h0).bind fun q8 =>
            (oQ σ 2 q8 x1).bind fun q9 =>
            (sI σ 3 196 q9 x2).bind fun σ_10 =>
            (oP σ_10 1 67 h0).bind fun q11 =>
            (oQ σ_10 2 q11 x1).bind fun q12 =>
            (sI σ_10 3 197 q12 x3).bind fun σ_13 =>
            some (1, σ_13)
          else
            some (0, σ)
def m_Row_computeDigest_L4 : Nat → Nat → Int32 → Int32 → fr_S → Option (Int32)
  | 0, _, _, _, _ => none
  | n + 1, b0, y1, y2, σ =>
    (oI σ 4 257 b0).bind fun v1 =>
    if v1 ≤ y2 then
      some y1
    else
      (oP σ 4 256 b0).bind fun q3 =>
      (oV σ 0 q3 y2).bind fun v4 =>
      m_Row_computeDigest_L4 n b0 ((((y1 ^^^ v4) <<< (5 &&& 31)) ||| (fr_ushr (y1 ^^^ v4) 27)) * (-2048144777)) (y2 + 1) σ
def m_Row_computeDigest (h0 : Nat) (σ : fr_S) : Option (Int32) :=
  m_Row_computeDigest_L4 1000 h0 0 0 σ
def m_FR_digest (h0 : Nat) (x1 : Int32) (σ : fr_S) : Option (Int32) :=
  (oK σ 1 h0).bind fun _ =>
  (m_FR_isPlace h0 x1 σ).bind fun r2 =>
  if r2 = 0 then
    some 0
  else
    (oP σ 1 67 h0).bind fun q4 =>
    (oQ σ 2 q4 x1).bind fun q5 =>
    (oP σ 3 192 q5).bind fun q6 =>
    (oK σ 4 q6).bind fun _ =>
    (m_Row_computeDigest q6 σ).bind fun r8 =>
    some r8
def m_FR_want (h0 : Nat) (x1 : Int32) (σ : fr_S) : Option (Int32 × fr_S) :=
  (oI σ 1 70 h0).bind fun v1 =>
  if v1 < 10 then
    (oP σ 1 69 h0).bind fun q3 =>
    (oI σ 1 70 h0).bind fun v4 =>
    (oQ σ 3 q3 v4).bind fun q5 =>
    (sI σ 7 451 q5 x1).bind fun σ_6 =>
    (oI σ_6 1 70 h0).bind fun v7 =>
    (sI σ_6 1 70 h0 (v7 + 1)).bind fun σ_8 =>
    some (v7, σ_8)
  else
    some ((-1), σ)
def m_FR_isWant (h0 : Nat) (x1 : Int32) (σ : fr_S) : Option (Int32) :=
  if x1 < 0 then
    some 0
  else
    (oI σ 1 70 h0).bind fun v2 =>
    if v2 ≤ x1 then
      some 0
    else
      some 1
def m_Want_addPlace_L13 : Nat → Nat → Int32 → Int32 → fr_S → Option (Int32 × fr_S)
  | 0, _, _, _, _ => none
  | n + 1, b0, y1, y2, σ =>
    (oI σ 7 450 b0).bind fun v3 =>
    if v3 ≤ y2 then
      (oP σ 7 449 b0).bind fun q5 =>
      (oI σ 7 450 b0).bind fun v6 =>
      (sI σ 7 450 b0 (v6 + 1)).bind fun σ_7 =>
      (sV σ_7 0 q5 v6 y1).bind fun σ_8 =>
      some (1, σ_8)
    else
      (oP σ 7 449 b0).bind fun q9 =>
      (oV σ 0 q9 y2).bind fun v10 =>
      if v10 = y1 then
        some (0, σ)
      else
        m_Want_addPlace_L13 n b0 y1 (y2 + 1) σ
def m_Want_addPlace (h0 : Nat) (x1 : Int32) (σ : fr_S) : Option (Int32 × fr_S) :=
  (oI σ 7 450 h0).bind fun v1 =>
  if v1 < 6 then
    m_Want_addPlace_L13 1000 h0 x1 0 σ
  else
    some (0, σ)
def m_FR_from (h0 : Nat) (x1 : Int32) (x2 : Int32) (σ : fr_S) : Option (Int32 × fr_S) :=
  (oK σ 1 h0).bind fun _ =>
  (m_FR_isWant h0 x1 σ).bind fun r2 =>
  if r2 = 0 then
    some (0, σ)
  else
    (oK σ 1 h0).bind fun _ =>
    (m_FR_isPlace h0 x2 σ).bind fun r5 =>
    if r5 = 0 then
      some (0, σ)
    else
      (oP σ 1 69 h0).bind fun q7 =>
      (oQ σ 3 q7 x1).bind fun q8 =>
      (oI σ 7 452 q8).bind fun v9 =>
      if v9 = 0 then
        (oP σ 1 69 h0).bind fun q11 =>
        (oQ σ 3 q11 x1).bind fun q12 =>
        (oK σ 7 q12).bind fun _ =>
        (m_Want_addPlace q12 x2 σ).bind fun w14 =>
        (oZ w14.1).bind fun _ =>
        some (w14.1, w14.2)
      else
        some (0, σ)
def m_FR_offLine (h0 : Nat) (x1 : Int32) (σ : fr_S) : Option (fr_S) :=
  (sZ σ 1 76 h0 x1).bind fun σ_1 =>
  (sI σ_1 1 74 h0 0).bind fun σ_2 =>
  some σ_2
def m_Want_isBusy (h0 : Nat) (σ : fr_S) : Option (Int32) :=
  (oI σ 7 452 h0).bind fun v1 =>
  if v1 = 1 then
    some 1
  else
    (oI σ 7 452 h0).bind fun v3 =>
    if v3 = 2 then
      some 1
    else
      some 0
def m_Store_find_L2 : Nat → Nat → Int32 → Int32 → fr_S → Option (Int32)
  | 0, _, _, _, _ => none
  | n + 1, b0, y1, y2, σ =>
    (oI σ 5 322 b0).bind fun v1 =>
    if v1 ≤ y2 then
      some ((-1))
    else
      (oP σ 5 320 b0).bind fun q3 =>
      (oV σ 0 q3 y2).bind fun v4 =>
      if v4 = y1 then
        some y2
      else
        m_Store_find_L2 n b0 y1 (y2 + 1) σ
def m_Store_find (h0 : Nat) (x1 : Int32) (σ : fr_S) : Option (Int32) :=
  m_Store_find_L2 1000 h0 x1 0 σ
def m_Row_copyFrom (h0 : Nat) (a1 : Nat) (σ : fr_S) : Option (fr_S) :=
  (oP σ 4 256 a1).bind fun q1 =>
  (oP σ 4 256 h0).bind fun q2 =>
  (oI σ 4 257 a1).bind fun v3 =>
  (sC σ q1 0 q2 0 v3).bind fun σ_4 =>
  (oI σ_4 4 257 a1).bind fun v5 =>
  (sI σ_4 4 257 h0 v5).bind fun σ_6 =>
  some σ_6
def m_FR_noteLacking_L2 : Nat → Nat → Int32 → Int32 → fr_S → Option (fr_S)
  | 0, _, _, _, _ => none
  | n + 1, b0, y1, y2, σ =>
    (oI σ 1 74 b0).bind fun v1 =>
    if v1 ≤ y2 then
      (oI σ 1 74 b0).bind fun v3 =>
      if 10 ≤ v3 then
        some σ
      else
        (oP σ 1 73 b0).bind fun q5 =>
        (oI σ 1 74 b0).bind fun v6 =>
        (sI σ 1 74 b0 (v6 + 1)).bind fun σ_7 =>
        (sV σ_7 0 q5 v6 y1).bind fun σ_8 =>
        some σ_8
    else
      (oP σ 1 73 b0).bind fun q9 =>
      (oV σ 0 q9 y2).bind fun v10 =>
      if v10 = y1 then
        some σ
      else
        m_FR_noteLacking_L2 n b0 y1 (y2 + 1) σ
def m_FR_noteLacking (h0 : Nat) (x1 : Int32) (σ : fr_S) : Option (fr_S) :=
  m_FR_noteLacking_L2 1000 h0 x1 0 σ
def m_Want_startAt (h0 : Nat) (x1 : Int32) (σ : fr_S) : Option (fr_S) :=
  (sI σ 7 453 h0 x1).bind fun σ_1 =>
  (sI σ_1 7 454 h0 0).bind fun σ_2 =>
  (oP σ_2 7 448 h0).bind fun q3 =>
  (sI σ_2 4 257 q3 0).bind fun σ_4 =>
  (sI σ_4 7 452 h0 1).bind fun σ_5 =>
  some σ_5
def m_FR_fetchFrom_L2 : Nat → Nat → Nat → Int32 → fr_S → Option (fr_S)
  | 0, _, _, _, _ => none
  | n + 1, b0, b1, y3, σ =>
    (oI σ 7 450 b1).bind fun v1 =>
    if v1 ≤ y3 then
      (sI σ 7 452 b1 4).bind fun σ_3 =>
      some σ_3
    else
      (oP σ 1 67 b0).bind fun q4 =>
      (oP σ 7 449 b1).bind fun q5 =>
      (oV σ 0 q5 y3).bind fun v6 =>
      (oQ σ 2 q4 v6).bind fun q7 =>
      (oI σ 3 201 q7).bind fun v8 =>
      if v8 = 0 then
        (oK σ 7 b1).bind fun _ =>
        (m_Want_startAt b1 y3 σ).bind fun σ_11 =>
        some σ_11
      else
        m_FR_fetchFrom_L2 n b0 b1 (y3 + 1) σ
def m_FR_fetchFrom (h0 : Nat) (a1 : Nat) (x2 : Int32) (σ : fr_S) : Option (fr_S) :=
  m_FR_fetchFrom_L2 1000 h0 a1 x2 σ
def m_FR_begin (h0 : Nat) (x1 : Int32) (σ : fr_S) : Option (Int32 × fr_S) :=
  (oK σ 1 h0).bind fun _ =>
  (m_FR_isWant h0 x1 σ).bind fun r2 =>
  if r2 = 0 then
    some ((-1), σ)
  else
    (oP σ 1 69 h0).bind fun q4 =>
    (oQ σ 3 q4 x1).bind fun q5 =>
    (oK σ 7 q5).bind fun _ =>
    (m_Want_isBusy q5 σ).bind fun r7 =>
    if r7 = 0 then
      (oP σ 1 69 h0).bind fun q9 =>
      (oQ σ 3 q9 x1).bind fun q10 =>
      (oP σ 1 71 h0).bind fun q11 =>
      (oI σ 7 451 q10).bind fun v12 =>
      (oK σ 5 q11).bind fun _ =>
      (m_Store_find q11 v12 σ).bind fun r14 =>
      if r14 = (-1) then
        (oI σ 1 76 h0).bind fun v16 =>
        if v16 = 0 then
          (oK σ 1 h0).bind fun _ =>
          (m_FR_fetchFrom h0 q10 0 σ).bind fun σ_19 =>
          (oI σ_19 7 452 q10).bind fun v20 =>
          some (v20, σ_19)
        else
          (sI σ 7 452 q10 4).bind fun σ_21 =>
          (oK σ_21 1 h0).bind fun _ =>
          (m_FR_noteLacking h0 x1 σ_21).bind fun σ_23 =>
          (oI σ_23 7 452 q10).bind fun v24 =>
          some (v24, σ_23)
      else
        (oP σ 7 448 q10).bind fun q25 =>
        (oP σ 1 71 h0).bind fun q26 =>
        (oP σ 5 321 q26).bind fun q27 =>
        (oQ σ 4 q27 r14).bind fun q28 =>
        (oK σ 4 q25).bind fun _ =>
        (m_Row_copyFrom q25 q28 σ).bind fun σ_30 =>
        (sI σ_30 7 452 q10 3).bind fun σ_31 =>
        (oI σ_31 7 452 q10).bind fun v32 =>
        some (v32, σ_31)
    else
      some ((-1), σ)
def m_Want_currentPlace (h0 : Nat) (σ : fr_S) : Option (Int32) :=
  (oI σ 7 453 h0).bind fun v1 =>
  if v1 < 0 then
    some ((-1))
  else
    (oI σ 7 453 h0).bind fun v3 =>
    (oI σ 7 450 h0).bind fun v4 =>
    if v4 ≤ v3 then
      some ((-1))
    else
      (oP σ 7 449 h0).bind fun q6 =>
      (oI σ 7 453 h0).bind fun v7 =>
      (oV σ 0 q6 v7).bind fun v8 =>
      some v8
def m_FR_countSent (h0 : Nat) (x1 : Int32) (x2 : Int32) (σ : fr_S) : Option (fr_S) :=
  if x2 = 0 then
    some σ
  else
    (oP σ 1 66 h0).bind fun q2 =>
    (oP σ 1 67 h0).bind fun q3 =>
    (oQ σ 2 q3 x1).bind fun q4 =>
    (oI σ 3 193 q4).bind fun v5 =>
    (oV σ 0 q2 v5).bind fun v6 =>
    (sV σ 0 q2 v5 (v6 + 1)).bind fun σ_7 =>
    some σ_7
def m_Place_leadsOn (h0 : Nat) (σ : fr_S) : Option (Int32) :=
  (oI σ 3 198 h0).bind fun v1 =>
  if v1 = 0 then
    (oI σ 3 195 h0).bind fun v3 =>
    if v3 = (-1) then
      some 0
    else
      some 1
  else
    some 0
def m_Place_gives (h0 : Nat) (x1 : Int32) (σ : fr_S) : Option (Int32) :=
  (oI σ 3 198 h0).bind fun v1 =>
  if v1 = 0 then
    (oI σ 3 195 h0).bind fun v3 =>
    if v3 = (-1) then
      if x1 = 0 then
        (oI σ 3 199 h0).bind fun v6 =>
        if v6 = 0 then
          some 1
        else
          some 0
      else
        some 1
    else
      some 0
  else
    some 0
def m_FR_ask_L36 : Nat → Nat → Int32 → Int32 → Int32 → fr_S → Option (Int32 × fr_S)
  | 0, _, _, _, _, _ => none
  | n + 1, b0, y2, y3, y4, σ =>
    if 3 ≤ y4 then
      (oP σ 1 67 b0).bind fun q12 =>
      (oQ σ 2 q12 y2).bind fun q13 =>
      (oK σ 3 q13).bind fun _ =>
      (m_Place_gives q13 y3 σ).bind fun r15 =>
      if r15 = 0 then
        some ((-1), σ)
      else
        some (y2, σ)
    else
      (oP σ 1 67 b0).bind fun q17 =>
      (oQ σ 2 q17 y2).bind fun q18 =>
      (oK σ 3 q18).bind fun _ =>
      (m_Place_leadsOn q18 σ).bind fun r20 =>
      if r20 = 0 then
        (oP σ 1 67 b0).bind fun q22 =>
        (oQ σ 2 q22 y2).bind fun q23 =>
        (oK σ 3 q23).bind fun _ =>
        (m_Place_gives q23 y3 σ).bind fun r25 =>
        if r25 = 0 then
          some ((-1), σ)
        else
          some (y2, σ)
      else
        (oP σ 1 67 b0).bind fun q27 =>
        (oQ σ 2 q27 y2).bind fun q28 =>
        (oI σ 3 195 q28).bind fun v29 =>
        if y3 = 0 then
          (oK σ 1 b0).bind fun _ =>
          (m_FR_countSent b0 v29 0 σ).bind fun σ_32 =>
          m_FR_ask_L36 n b0 v29 0 (y4 + 1) σ_32
        else
          (oP σ 1 67 b0).bind fun q33 =>
          (oQ σ 2 q33 v29).bind fun q34 =>
          (oI σ 3 193 q34).bind fun v35 =>
          (oP σ 1 67 b0).bind fun q36 =>
          (oQ σ 2 q36 y2).bind fun q37 =>
          (oI σ 3 193 q37).bind fun v38 =>
          if v35 = v38 then
            (oK σ 1 b0).bind fun _ =>
            (m_FR_countSent b0 v29 1 σ).bind fun σ_43 =>
            m_FR_ask_L36 n b0 v29 1 (y4 + 1) σ_43
          else
            (oK σ 1 b0).bind fun _ =>
            (m_FR_countSent b0 v29 0 σ).bind fun σ_41 =>
            m_FR_ask_L36 n b0 v29 0 (y4 + 1) σ_41
def m_FR_ask (h0 : Nat) (x1 : Int32) (σ : fr_S) : Option (Int32 × fr_S) :=
  (oK σ 1 h0).bind fun _ =>
  (m_FR_isPlace h0 x1 σ).bind fun r2 =>
  if r2 = 0 then
    some ((-1), σ)
  else
    (oP σ 1 65 h0).bind fun q4 =>
    (oP σ 1 67 h0).bind fun q5 =>
    (oQ σ 2 q5 x1).bind fun q6 =>
    (oI σ 3 193 q6).bind fun v7 =>
    (oV σ 1 q4 v7).bind fun v8 =>
    (oK σ 1 h0).bind fun _ =>
    (m_FR_countSent h0 x1 v8 σ).bind fun σ_10 =>
    m_FR_ask_L36 1000 h0 x1 v8 0 σ_10
def m_FR_giveUp (h0 : Nat) (a1 : Nat) (σ : fr_S) : Option (fr_S) :=
  (oI σ 7 453 a1).bind fun v1 =>
  (oK σ 1 h0).bind fun _ =>
  (m_FR_fetchFrom h0 a1 ((v1 + 1)) σ).bind fun σ_3 =>
  some σ_3
def m_Row_at (h0 : Nat) (x1 : Int32) (σ : fr_S) : Option (Int32) :=
  if x1 < 0 then
    some ((-1))
  else
    (oI σ 4 257 h0).bind fun v2 =>
    if v2 ≤ x1 then
      some ((-1))
    else
      (oP σ 4 256 h0).bind fun q4 =>
      (oV σ 0 q4 x1).bind fun v5 =>
      some v5
def m_Place_givenByte (h0 : Nat) (x1 : Int32) (σ : fr_S) : Option (Int32) :=
  if x1 = 0 then
    (oI σ 3 200 h0).bind fun v5 =>
    if v5 = 0 then
      (oP σ 3 192 h0).bind fun q7 =>
      (oK σ 4 q7).bind fun _ =>
      (m_Row_at q7 x1 σ).bind fun r9 =>
      some r9
    else
      (oP σ 3 192 h0).bind fun q10 =>
      (oK σ 4 q10).bind fun _ =>
      (m_Row_at q10 x1 σ).bind fun r12 =>
      some ((r12 ^^^ 1))
  else
    (oP σ 3 192 h0).bind fun q2 =>
    (oK σ 4 q2).bind fun _ =>
    (m_Row_at q2 x1 σ).bind fun r4 =>
    some r4
def m_Place_giveTo_L65 : Nat → Nat → Nat → Int32 → Int32 → Int32 → fr_S → Option (Int32 × fr_S)
  | 0, _, _, _, _, _, _ => none
  | n + 1, b0, b1, y2, y4, y5, σ =>
    if y4 ≤ y5 then
      (oZ y2).bind fun _ =>
      some (y2, σ)
    else
      (oK σ 3 b0).bind fun _ =>
      (m_Place_givenByte b0 y5 σ).bind fun r21 =>
      (oK σ 4 b1).bind fun _ =>
      (m_Row_append b1 r21 σ).bind fun σ_23 =>
      m_Place_giveTo_L65 n b0 b1 y2 y4 (y5 + 1) σ_23
def m_Place_giveTo (h0 : Nat) (a1 : Nat) (σ : fr_S) : Option (Int32 × fr_S) :=
  (oI σ 3 196 h0).bind fun v1 =>
  if v1 ≤ 0 then
    (oI σ 3 194 h0).bind fun v3 =>
    (oP σ 3 192 h0).bind fun q5 =>
    (oI σ 4 257 q5).bind fun v6 =>
    (oI σ 4 257 a1).bind fun v7 =>
    (oI σ 4 257 a1).bind fun v8 =>
    m_Place_giveTo_L65 1000 h0 a1 0 (if (v7 + v3) < v6 then (v7 + v3) else v6) v8 σ
  else
    (oI σ 3 194 h0).bind fun v9 =>
    (oI σ 3 196 h0).bind fun v11 =>
    (sI σ 3 196 h0 (v11 - 1)).bind fun σ_12 =>
    (oI σ_12 3 197 h0).bind fun v13 =>
    (oP σ_12 3 192 h0).bind fun q14 =>
    (oI σ_12 4 257 q14).bind fun v15 =>
    (oI σ_12 4 257 a1).bind fun v16 =>
    (oI σ_12 4 257 a1).bind fun v17 =>
    m_Place_giveTo_L65 1000 h0 a1 1 (if (v16 + (if v13 < v9 then v13 else v9)) < v15 then (v16 + (if v13 < v9 then v13 else v9)) else v15) v17 σ_12
def m_Store_keep (h0 : Nat) (x1 : Int32) (a2 : Nat) (σ : fr_S) : Option (fr_S) :=
  (oK σ 5 h0).bind fun _ =>
  (m_Store_find h0 x1 σ).bind fun r2 =>
  if r2 = (-1) then
    (oI σ 5 322 h0).bind fun v4 =>
    if v4 < 10 then
      (oP σ 5 320 h0).bind fun q6 =>
      (oI σ 5 322 h0).bind fun v7 =>
      (sV σ 0 q6 v7 x1).bind fun σ_8 =>
      (oP σ_8 5 321 h0).bind fun q9 =>
      (oI σ_8 5 322 h0).bind fun v10 =>
      (oQ σ_8 4 q9 v10).bind fun q11 =>
      (oK σ_8 4 q11).bind fun _ =>
      (m_Row_copyFrom q11 a2 σ_8).bind fun σ_13 =>
      (oI σ_13 5 322 h0).bind fun v14 =>
      (sI σ_13 5 322 h0 (v14 + 1)).bind fun σ_15 =>
      some σ_15
    else
      some σ
  else
    some σ
def m_Tellings_tell (h0 : Nat) (x1 : Int32) (x2 : Int32) (x3 : Int32) (σ : fr_S) : Option (fr_S) :=
  (oI σ 6 387 h0).bind fun v1 =>
  if v1 < 60 then
    (oP σ 6 384 h0).bind fun q3 =>
    (oI σ 6 387 h0).bind fun v4 =>
    (sV σ 0 q3 v4 x1).bind fun σ_5 =>
    (oP σ_5 6 385 h0).bind fun q6 =>
    (oI σ_5 6 387 h0).bind fun v7 =>
    (sV σ_5 0 q6 v7 x2).bind fun σ_8 =>
    (oP σ_8 6 386 h0).bind fun q9 =>
    (oI σ_8 6 387 h0).bind fun v10 =>
    (sV σ_8 0 q9 v10 x3).bind fun σ_11 =>
    (oI σ_11 6 387 h0).bind fun v12 =>
    (sI σ_11 6 387 h0 (v12 + 1)).bind fun σ_13 =>
    some σ_13
  else
    some σ
def m_FR_checkDigest (h0 : Nat) (x1 : Int32) (σ : fr_S) : Option (fr_S) :=
  (oP σ 1 69 h0).bind fun q1 =>
  (oQ σ 3 q1 x1).bind fun q2 =>
  (oP σ 7 448 q2).bind fun q3 =>
  (oK σ 4 q3).bind fun _ =>
  (m_Row_computeDigest q3 σ).bind fun r5 =>
  (oI σ 7 451 q2).bind fun v6 =>
  if r5 = v6 then
    (sI σ 7 452 q2 3).bind fun σ_23 =>
    (oP σ_23 1 71 h0).bind fun q24 =>
    (oP σ_23 7 448 q2).bind fun q25 =>
    (oK σ_23 5 q24).bind fun _ =>
    (m_Store_keep q24 r5 q25 σ_23).bind fun σ_27 =>
    some σ_27
  else
    (oK σ 7 q2).bind fun _ =>
    (m_Want_currentPlace q2 σ).bind fun r9 =>
    (oK σ 1 h0).bind fun _ =>
    (m_FR_isPlace h0 r9 σ).bind fun r11 =>
    if r11 = 0 then
      (oK σ 1 h0).bind fun _ =>
      (m_FR_giveUp h0 q2 σ).bind fun σ_14 =>
      some σ_14
    else
      (oP σ 1 67 h0).bind fun q15 =>
      (oQ σ 2 q15 r9).bind fun q16 =>
      (sZ σ 3 201 q16 1).bind fun σ_17 =>
      (oP σ_17 1 72 h0).bind fun q18 =>
      (oK σ_17 6 q18).bind fun _ =>
      (m_Tellings_tell q18 x1 r9 r5 σ_17).bind fun σ_20 =>
      (oK σ_20 1 h0).bind fun _ =>
      (m_FR_giveUp h0 q2 σ_20).bind fun σ_22 =>
      some σ_22
def m_FR_falter (h0 : Nat) (a1 : Nat) (σ : fr_S) : Option (fr_S) :=
  (oI σ 7 454 a1).bind fun v1 =>
  (oI σ 1 64 h0).bind fun v2 =>
  if v1 < v2 then
    (oI σ 1 77 h0).bind fun v4 =>
    (oI σ 7 454 a1).bind fun v5 =>
    (sI σ 7 455 a1 (v4 + (1 <<< (v5 &&& 31)))).bind fun σ_6 =>
    (oI σ_6 7 454 a1).bind fun v7 =>
    (sI σ_6 7 454 a1 (v7 + 1)).bind fun σ_8 =>
    (sI σ_8 7 452 a1 2).bind fun σ_9 =>
    some σ_9
  else
    (oK σ 1 h0).bind fun _ =>
    (m_FR_giveUp h0 a1 σ).bind fun σ_11 =>
    some σ_11
def m_FR_takeTurn (h0 : Nat) (x1 : Int32) (σ : fr_S) : Option (fr_S) :=
  (oP σ 1 69 h0).bind fun q1 =>
  (oQ σ 3 q1 x1).bind fun q2 =>
  (oI σ 7 456 q2).bind fun v3 =>
  (sI σ 7 456 q2 (v3 + 1)).bind fun σ_4 =>
  (oK σ_4 7 q2).bind fun _ =>
  (m_Want_currentPlace q2 σ_4).bind fun r6 =>
  (oK σ_4 1 h0).bind fun _ =>
  (m_FR_ask h0 r6 σ_4).bind fun w8 =>
  if w8.1 = (-1) then
    (oK w8.2 1 h0).bind fun _ =>
    (m_FR_giveUp h0 q2 w8.2).bind fun σ_26 =>
    some σ_26
  else
    (oP w8.2 1 67 h0).bind fun q10 =>
    (oQ w8.2 2 q10 w8.1).bind fun q11 =>
    (oP w8.2 7 448 q2).bind fun q12 =>
    (oK w8.2 3 q11).bind fun _ =>
    (m_Place_giveTo q11 q12 w8.2).bind fun w14 =>
    (oP w14.2 7 448 q2).bind fun q15 =>
    (oI w14.2 4 257 q15).bind fun v16 =>
    (oP w14.2 3 192 q11).bind fun q17 =>
    (oI w14.2 4 257 q17).bind fun v18 =>
    if v16 < v18 then
      if w14.1 = 0 then
        some w14.2
      else
        (oK w14.2 1 h0).bind fun _ =>
        (m_FR_falter h0 q2 w14.2).bind fun σ_22 =>
        some σ_22
    else
      (oK w14.2 1 h0).bind fun _ =>
      (m_FR_checkDigest h0 x1 w14.2).bind fun σ_24 =>
      some σ_24
def m_FR_moveClock_L12 : Nat → Nat → Int32 → fr_S → Option (fr_S)
  | 0, _, _, _ => none
  | n + 1, b0, y1, σ =>
    (oI σ 1 70 b0).bind fun v3 =>
    if v3 ≤ y1 then
      some σ
    else
      (oP σ 1 69 b0).bind fun q5 =>
      (oQ σ 3 q5 y1).bind fun q6 =>
      (oI σ 7 452 q6).bind fun v7 =>
      if v7 = 2 then
        (oI σ 7 455 q6).bind fun v13 =>
        (oI σ 1 77 b0).bind fun v14 =>
        if v14 < v13 then
          (oI σ 7 452 q6).bind fun v16 =>
          if v16 = 1 then
            (oK σ 1 b0).bind fun _ =>
            (m_FR_takeTurn b0 y1 σ).bind fun σ_19 =>
            m_FR_moveClock_L12 n b0 (y1 + 1) σ_19
          else
            m_FR_moveClock_L12 n b0 (y1 + 1) σ
        else
          (sI σ 7 452 q6 1).bind fun σ_20 =>
          (oI σ_20 7 452 q6).bind fun v21 =>
          if v21 = 1 then
            (oK σ_20 1 b0).bind fun _ =>
            (m_FR_takeTurn b0 y1 σ_20).bind fun σ_24 =>
            m_FR_moveClock_L12 n b0 (y1 + 1) σ_24
          else
            m_FR_moveClock_L12 n b0 (y1 + 1) σ_20
      else
        (oI σ 7 452 q6).bind fun v9 =>
        if v9 = 1 then
          (oK σ 1 b0).bind fun _ =>
          (m_FR_takeTurn b0 y1 σ).bind fun σ_12 =>
          m_FR_moveClock_L12 n b0 (y1 + 1) σ_12
        else
          m_FR_moveClock_L12 n b0 (y1 + 1) σ
def m_FR_moveClock (h0 : Nat) (σ : fr_S) : Option (fr_S) :=
  (oI σ 1 77 h0).bind fun v1 =>
  (sI σ 1 77 h0 (v1 + 1)).bind fun σ_2 =>
  m_FR_moveClock_L12 1000 h0 0 σ_2
def m_FR_countBusy_L4 : Nat → Nat → Int32 → Int32 → fr_S → Option (Int32)
  | 0, _, _, _, _ => none
  | n + 1, b0, y1, y2, σ =>
    (oI σ 1 70 b0).bind fun v1 =>
    if v1 ≤ y2 then
      some y1
    else
      (oP σ 1 69 b0).bind fun q3 =>
      (oQ σ 3 q3 y2).bind fun q4 =>
      (oK σ 7 q4).bind fun _ =>
      (m_Want_isBusy q4 σ).bind fun r6 =>
      if r6 = 0 then
        m_FR_countBusy_L4 n b0 y1 (y2 + 1) σ
      else
        m_FR_countBusy_L4 n b0 (y1 + 1) (y2 + 1) σ
def m_FR_countBusy (h0 : Nat) (σ : fr_S) : Option (Int32) :=
  m_FR_countBusy_L4 1000 h0 0 0 σ
def m_FR_tick_L14 : Nat → Nat → Int32 → Int32 → fr_S → Option (Int32 × fr_S)
  | 0, _, _, _, _ => none
  | n + 1, b0, y1, y2, σ =>
    if y1 ≤ y2 then
      (oK σ 1 b0).bind fun _ =>
      (m_FR_countBusy b0 σ).bind fun r5 =>
      some (r5, σ)
    else
      (oK σ 1 b0).bind fun _ =>
      (m_FR_moveClock b0 σ).bind fun σ_7 =>
      m_FR_tick_L14 n b0 y1 (y2 + 1) σ_7
def m_FR_tick (h0 : Nat) (x1 : Int32) (σ : fr_S) : Option (Int32 × fr_S) :=
  if x1 < 0 then
    some ((-1), σ)
  else
    if x1 ≤ 50 then
      m_FR_tick_L14 1000 h0 x1 0 σ
    else
      some ((-1), σ)
def m_FR_about (h0 : Nat) (x1 : Int32) (x2 : Int32) (σ : fr_S) : Option (Int32) :=
  (oK σ 1 h0).bind fun _ =>
  (m_FR_isWant h0 x1 σ).bind fun r2 =>
  if r2 = 0 then
    some ((-1))
  else
    (oP σ 1 69 h0).bind fun q4 =>
    (oQ σ 3 q4 x1).bind fun q5 =>
    if x2 = 0 then
      (oI σ 7 452 q5).bind fun v7 =>
      some v7
    else
    if x2 = 1 then
      (oK σ 7 q5).bind fun _ =>
      (m_Want_isBusy q5 σ).bind fun r10 =>
      if r10 = 0 then
        some ((-1))
      else
        (oK σ 7 q5).bind fun _ =>
        (m_Want_currentPlace q5 σ).bind fun r13 =>
        some r13
    else
    if x2 = 2 then
      (oP σ 7 448 q5).bind fun q15 =>
      (oI σ 4 257 q15).bind fun v16 =>
      some v16
    else
    if x2 = 3 then
      (oI σ 7 452 q5).bind fun v18 =>
      if v18 = 2 then
        (oI σ 7 455 q5).bind fun v20 =>
        some v20
      else
        some ((-1))
    else
    if x2 = 4 then
      (oI σ 7 456 q5).bind fun v22 =>
      some v22
    else
      some ((-1))
def m_FR_byteOf (h0 : Nat) (x1 : Int32) (x2 : Int32) (σ : fr_S) : Option (Int32) :=
  (oK σ 1 h0).bind fun _ =>
  (m_FR_isWant h0 x1 σ).bind fun r2 =>
  if r2 = 0 then
    some ((-1))
  else
    (oP σ 1 69 h0).bind fun q4 =>
    (oQ σ 3 q4 x1).bind fun q5 =>
    (oP σ 7 448 q5).bind fun q6 =>
    (oK σ 4 q6).bind fun _ =>
    (m_Row_at q6 x2 σ).bind fun r8 =>
    some r8
def m_Tellings_has (h0 : Nat) (x1 : Int32) (σ : fr_S) : Option (Int32) :=
  if x1 < 0 then
    some 0
  else
    (oI σ 6 387 h0).bind fun v2 =>
    if v2 ≤ x1 then
      some 0
    else
      some 1
def m_FR_barred (h0 : Nat) (x1 : Int32) (x2 : Int32) (σ : fr_S) : Option (Int32) :=
  (oP σ 1 72 h0).bind fun q1 =>
  (oK σ 6 q1).bind fun _ =>
  (m_Tellings_has q1 x1 σ).bind fun r3 =>
  if r3 = 0 then
    some ((-1))
  else
    if x2 = 0 then
      (oP σ 1 72 h0).bind fun q6 =>
      (oP σ 6 384 q6).bind fun q7 =>
      (oV σ 0 q7 x1).bind fun v8 =>
      some v8
    else
    if x2 = 1 then
      (oP σ 1 72 h0).bind fun q10 =>
      (oP σ 6 385 q10).bind fun q11 =>
      (oV σ 0 q11 x1).bind fun v12 =>
      some v12
    else
      some ((-1))
def m_FR_came (h0 : Nat) (x1 : Int32) (σ : fr_S) : Option (Int32) :=
  (oP σ 1 72 h0).bind fun q1 =>
  (oK σ 6 q1).bind fun _ =>
  (m_Tellings_has q1 x1 σ).bind fun r3 =>
  if r3 = 0 then
    some 0
  else
    (oP σ 1 72 h0).bind fun q5 =>
    (oP σ 6 386 q5).bind fun q6 =>
    (oV σ 0 q6 x1).bind fun v7 =>
    some v7
def m_FR_lacks (h0 : Nat) (x1 : Int32) (σ : fr_S) : Option (Int32) :=
  if x1 < 0 then
    some ((-1))
  else
    (oI σ 1 74 h0).bind fun v2 =>
    if v2 ≤ x1 then
      some ((-1))
    else
      (oP σ 1 73 h0).bind fun q4 =>
      (oV σ 0 q4 x1).bind fun v5 =>
      some v5
def m_FR_sent (h0 : Nat) (x1 : Int32) (σ : fr_S) : Option (Int32) :=
  (m_FR_isHost x1 σ).bind fun r1 =>
  if r1 = 0 then
    some 0
  else
    (oP σ 1 66 h0).bind fun q3 =>
    (oV σ 0 q3 x1).bind fun v4 =>
    some v4
def m_Archive_pathEnd (a0 : Nat) (x1 : Int32) (σ : fr_S) : Option (Int32) :=
  (oK σ 4 a0).bind fun _ =>
  (m_Row_at a0 x1 σ).bind fun r2 =>
  some (((x1 + 1) + r2))
def m_Archive_isRightSegment (a0 : Nat) (x1 : Int32) (x2 : Int32) (σ : fr_S) : Option (Int32) :=
  if 0 < (x2 - x1) then
    if 2 < (x2 - x1) then
      some 1
    else
      (oK σ 4 a0).bind fun _ =>
      (m_Row_at a0 x1 σ).bind fun r4 =>
      if r4 = 46 then
        (oK σ 4 a0).bind fun _ =>
        (m_Row_at a0 ((x2 - 1)) σ).bind fun r7 =>
        if r7 = 46 then
          some 0
        else
          some 1
      else
        some 1
  else
    some 0
def m_Archive_isPathCharacter (x0 : Int32) (σ : fr_S) : Option (Int32) :=
  if x0 < 97 then
    if x0 < 48 then
      if x0 = 46 then
        some 1
      else
        some 0
    else
      if x0 ≤ 57 then
        some 1
      else
        if x0 = 46 then
          some 1
        else
          some 0
  else
    if x0 ≤ 122 then
      some 1
    else
      if x0 < 48 then
        if x0 = 46 then
          some 1
        else
          some 0
      else
        if x0 ≤ 57 then
          some 1
        else
          if x0 = 46 then
            some 1
          else
            some 0
def m_Archive_isRightPath_L5 : Nat → Nat → Int32 → Int32 → Int32 → fr_S → Option (Int32)
  | 0, _, _, _, _, _ => none
  | n + 1, b0, y2, y3, y4, σ =>
    if y2 ≤ y4 then
      (m_Archive_isRightSegment b0 y3 y2 σ).bind fun r2 =>
      (oZ r2).bind fun _ =>
      some r2
    else
      (oK σ 4 b0).bind fun _ =>
      (m_Row_at b0 y4 σ).bind fun r5 =>
      if r5 = 47 then
        (m_Archive_isRightSegment b0 y3 y4 σ).bind fun r9 =>
        if r9 = 0 then
          some 0
        else
          m_Archive_isRightPath_L5 n b0 y2 (y4 + 1) (y4 + 1) σ
      else
        (m_Archive_isPathCharacter r5 σ).bind fun r7 =>
        if r7 = 0 then
          some 0
        else
          m_Archive_isRightPath_L5 n b0 y2 y3 (y4 + 1) σ
def m_Archive_isRightPath (a0 : Nat) (x1 : Int32) (x2 : Int32) (σ : fr_S) : Option (Int32) :=
  m_Archive_isRightPath_L5 1000 a0 x2 x1 x1 σ
def m_Archive_entryEnd (a0 : Nat) (x1 : Int32) (σ : fr_S) : Option (Int32) :=
  (m_Archive_pathEnd a0 x1 σ).bind fun r1 =>
  (oK σ 4 a0).bind fun _ =>
  (m_Row_at a0 r1 σ).bind fun r3 =>
  some (((r1 + 1) + r3))
def m_Archive_findIllOfEntry (a0 : Nat) (x1 : Int32) (σ : fr_S) : Option (Int32) :=
  (oK σ 4 a0).bind fun _ =>
  (m_Row_at a0 x1 σ).bind fun r2 =>
  if r2 < 1 then
    some x1
  else
    if r2 ≤ 20 then
      (m_Archive_pathEnd a0 x1 σ).bind fun r5 =>
      (oI σ 4 257 a0).bind fun v6 =>
      if r5 < v6 then
        (m_Archive_pathEnd a0 x1 σ).bind fun r8 =>
        (m_Archive_isRightPath a0 ((x1 + 1)) r8 σ).bind fun r9 =>
        if r9 = 0 then
          some ((x1 + 1))
        else
          (m_Archive_entryEnd a0 x1 σ).bind fun r11 =>
          (oI σ 4 257 a0).bind fun v12 =>
          if r11 ≤ v12 then
            some ((-1))
          else
            (oI σ 4 257 a0).bind fun v14 =>
            some v14
      else
        (oI σ 4 257 a0).bind fun v15 =>
        some v15
    else
      some x1
def m_Archive_findIll_L4 : Nat → Nat → Int32 → Int32 → fr_S → Option (Int32)
  | 0, _, _, _, _ => none
  | n + 1, b0, y1, y2, σ =>
    if 100 ≤ y2 then
      some ((-1))
    else
      (oI σ 4 257 b0).bind fun v2 =>
      if v2 ≤ y1 then
        some ((-1))
      else
        (m_Archive_findIllOfEntry b0 y1 σ).bind fun r4 =>
        if r4 = (-1) then
          (m_Archive_entryEnd b0 y1 σ).bind fun r6 =>
          m_Archive_findIll_L4 n b0 r6 (y2 + 1) σ
        else
          some r4
def m_Archive_findIll (a0 : Nat) (σ : fr_S) : Option (Int32) :=
  m_Archive_findIll_L4 1000 a0 0 0 σ
def m_Archive_strippedStart_L9 : Nat → Nat → Int32 → Int32 → Int32 → Int32 → fr_S → Option (Int32)
  | 0, _, _, _, _, _, _ => none
  | n + 1, b0, y2, y4, y5, y6, σ =>
    if y2 ≤ y6 then
      if y5 ≤ 0 then
        some y4
      else
        some y2
    else
      if y5 ≤ 0 then
        if y5 ≤ 0 then
          some y4
        else
          some y2
      else
        (oK σ 4 b0).bind fun _ =>
        (m_Row_at b0 y6 σ).bind fun r6 =>
        if r6 = 47 then
          m_Archive_strippedStart_L9 n b0 y2 (y6 + 1) (y5 + (-1)) (y6 + 1) σ
        else
          m_Archive_strippedStart_L9 n b0 y2 y4 y5 (y6 + 1) σ
def m_Archive_strippedStart (a0 : Nat) (x1 : Int32) (x2 : Int32) (x3 : Int32) (σ : fr_S) : Option (Int32) :=
  m_Archive_strippedStart_L9 1000 a0 x2 x1 x3 x1 σ
def m_Row_hasSame_L3 : Nat → Nat → Int32 → Int32 → Int32 → Int32 → fr_S → Option (Int32)
  | 0, _, _, _, _, _, _ => none
  | n + 1, b0, y1, y2, y3, y4, σ =>
    if y3 ≤ y4 then
      some 1
    else
      (oK σ 4 b0).bind fun _ =>
      (m_Row_at b0 ((y1 + y4)) σ).bind fun r3 =>
      (oK σ 4 b0).bind fun _ =>
      (m_Row_at b0 ((y2 + y4)) σ).bind fun r5 =>
      if r3 = r5 then
        m_Row_hasSame_L3 n b0 y1 y2 y3 (y4 + 1) σ
      else
        some 0
def m_Row_hasSame (h0 : Nat) (x1 : Int32) (x2 : Int32) (x3 : Int32) (σ : fr_S) : Option (Int32) :=
  m_Row_hasSame_L3 1000 h0 x1 x2 x3 0 σ
def m_Files_findPath_L3 : Nat → Nat → Nat → Int32 → Int32 → Int32 → fr_S → Option (Int32)
  | 0, _, _, _, _, _, _ => none
  | n + 1, b0, b1, y2, y3, y4, σ =>
    (oI σ 2 132 b0).bind fun v1 =>
    if v1 ≤ y4 then
      (oI σ 2 132 b0).bind fun v3 =>
      some v3
    else
      (oP σ 2 131 b0).bind fun q4 =>
      (oV σ 0 q4 y4).bind fun v5 =>
      if v5 = y3 then
        (oP σ 2 130 b0).bind fun q7 =>
        (oV σ 0 q7 y4).bind fun v8 =>
        (oK σ 4 b1).bind fun _ =>
        (m_Row_hasSame b1 v8 y2 y3 σ).bind fun r10 =>
        if r10 = 0 then
          m_Files_findPath_L3 n b0 b1 y2 y3 (y4 + 1) σ
        else
          some y4
      else
        m_Files_findPath_L3 n b0 b1 y2 y3 (y4 + 1) σ
def m_Files_findPath (h0 : Nat) (a1 : Nat) (x2 : Int32) (x3 : Int32) (σ : fr_S) : Option (Int32) :=
  m_Files_findPath_L3 1000 h0 a1 x2 x3 0 σ
def m_Files_put (h0 : Nat) (a1 : Nat) (x2 : Int32) (x3 : Int32) (σ : fr_S) : Option (fr_S) :=
  (oK σ 2 h0).bind fun _ =>
  (m_Files_findPath h0 a1 x2 ((x3 - x2)) σ).bind fun r2 =>
  if r2 < 33 then
    (oI σ 2 132 h0).bind fun v4 =>
    if r2 = v4 then
      (oP σ 2 130 h0).bind fun q12 =>
      (sV σ 0 q12 r2 x2).bind fun σ_13 =>
      (oP σ_13 2 131 h0).bind fun q14 =>
      (sV σ_13 0 q14 r2 (x3 - x2)).bind fun σ_15 =>
      (oI σ_15 2 132 h0).bind fun v16 =>
      (sI σ_15 2 132 h0 (v16 + 1)).bind fun σ_17 =>
      (oP σ_17 2 128 h0).bind fun q18 =>
      (sV σ_17 0 q18 r2 (x3 + 1)).bind fun σ_19 =>
      (oP σ_19 2 129 h0).bind fun q20 =>
      (oK σ_19 4 a1).bind fun _ =>
      (m_Row_at a1 x3 σ_19).bind fun r22 =>
      (sV σ_19 0 q20 r2 r22).bind fun σ_23 =>
      some σ_23
    else
      (oP σ 2 128 h0).bind fun q6 =>
      (sV σ 0 q6 r2 (x3 + 1)).bind fun σ_7 =>
      (oP σ_7 2 129 h0).bind fun q8 =>
      (oK σ_7 4 a1).bind fun _ =>
      (m_Row_at a1 x3 σ_7).bind fun r10 =>
      (sV σ_7 0 q8 r2 r10).bind fun σ_11 =>
      some σ_11
  else
    some σ
def m_Files_fill_L10 : Nat → Nat → Nat → Int32 → Int32 → Int32 → fr_S → Option (fr_S)
  | 0, _, _, _, _, _, _ => none
  | n + 1, b0, b1, y2, y3, y4, σ =>
    if 33 ≤ y4 then
      some σ
    else
      (oI σ 4 257 b1).bind fun v3 =>
      if v3 ≤ y3 then
        some σ
      else
        (m_Archive_pathEnd b1 y3 σ).bind fun r5 =>
        (m_Archive_strippedStart b1 ((y3 + 1)) r5 y2 σ).bind fun r6 =>
        if r5 ≤ r6 then
          (m_Archive_entryEnd b1 y3 σ).bind fun r8 =>
          m_Files_fill_L10 n b0 b1 y2 r8 (y4 + 1) σ
        else
          (oK σ 2 b0).bind fun _ =>
          (m_Files_put b0 b1 r6 r5 σ).bind fun σ_10 =>
          (m_Archive_entryEnd b1 y3 σ_10).bind fun r11 =>
          m_Files_fill_L10 n b0 b1 y2 r11 (y4 + 1) σ_10
def m_Files_fill (h0 : Nat) (a1 : Nat) (x2 : Int32) (σ : fr_S) : Option (fr_S) :=
  (sI σ 2 132 h0 0).bind fun σ_1 =>
  m_Files_fill_L10 1000 h0 a1 x2 0 0 σ_1
def m_FR_unpack (h0 : Nat) (x1 : Int32) (x2 : Int32) (σ : fr_S) : Option (Int32 × fr_S) :=
  (oK σ 1 h0).bind fun _ =>
  (m_FR_isWant h0 x1 σ).bind fun r2 =>
  if r2 = 0 then
    some ((-1000), σ)
  else
    (oP σ 1 69 h0).bind fun q4 =>
    (oQ σ 3 q4 x1).bind fun q5 =>
    (oI σ 7 452 q5).bind fun v6 =>
    if v6 = 3 then
      if x2 < 0 then
        some ((-1000), σ)
      else
        if x2 ≤ 5 then
          (oP σ 1 69 h0).bind fun q10 =>
          (oQ σ 3 q10 x1).bind fun q11 =>
          (oP σ 7 448 q11).bind fun q12 =>
          (m_Archive_findIll q12 σ).bind fun r13 =>
          if r13 = (-1) then
            (oP σ 1 75 h0).bind fun q15 =>
            (oK σ 2 q15).bind fun _ =>
            (m_Files_fill q15 q12 x2 σ).bind fun σ_17 =>
            (oP σ_17 1 75 h0).bind fun q18 =>
            (oI σ_17 2 132 q18).bind fun v19 =>
            some (v19, σ_17)
          else
            some (((-1) - r13), σ)
        else
          some ((-1000), σ)
    else
      some ((-1000), σ)
def m_Files_has (h0 : Nat) (x1 : Int32) (σ : fr_S) : Option (Int32) :=
  if x1 < 0 then
    some 0
  else
    (oI σ 2 132 h0).bind fun v2 =>
    if v2 ≤ x1 then
      some 0
    else
      some 1
def m_FR_file (h0 : Nat) (x1 : Int32) (x2 : Int32) (σ : fr_S) : Option (Int32) :=
  (oP σ 1 75 h0).bind fun q1 =>
  (oK σ 2 q1).bind fun _ =>
  (m_Files_has q1 x1 σ).bind fun r3 =>
  if r3 = 0 then
    some ((-1))
  else
    if x2 = 0 then
      (oP σ 1 75 h0).bind fun q6 =>
      (oP σ 2 128 q6).bind fun q7 =>
      (oV σ 0 q7 x1).bind fun v8 =>
      some v8
    else
    if x2 = 1 then
      (oP σ 1 75 h0).bind fun q10 =>
      (oP σ 2 129 q10).bind fun q11 =>
      (oV σ 0 q11 x1).bind fun v12 =>
      some v12
    else
    if x2 = 2 then
      (oP σ 1 75 h0).bind fun q14 =>
      (oP σ 2 130 q14).bind fun q15 =>
      (oV σ 0 q15 x1).bind fun v16 =>
      some v16
    else
    if x2 = 3 then
      (oP σ 1 75 h0).bind fun q18 =>
      (oP σ 2 131 q18).bind fun q19 =>
      (oV σ 0 q19 x1).bind fun v20 =>
      some v20
    else
      some ((-1))
