def m_law_C0 (xs : Nat → Int32) (L bx bm : Nat) (i : Int32) (σ τ : fr_S) : Option (fr_S × fr_S) :=
  (oS xs L (i + 1)).bind fun v1 =>
  (oS xs L (i + 2)).bind fun v2 =>
  if v2 = 0 then
    (oK σ 1 bx).bind fun _ =>
    (m_FR_credential bx v1 0 σ).bind fun w5 =>
    (oS xs L (i + 1)).bind fun v6 =>
    (oS xs L (i + 2)).bind fun v7 =>
    if v7 = 0 then
      (oK τ 0 bm).bind fun _ =>
      (m_Md_credential bm v6 0 τ).bind fun w10 =>
      some (w5.2, w10.2)
    else
      (oK τ 0 bm).bind fun _ =>
      (m_Md_credential bm v6 1 τ).bind fun w12 =>
      some (w5.2, w12.2)
  else
    (oK σ 1 bx).bind fun _ =>
    (m_FR_credential bx v1 1 σ).bind fun w14 =>
    (oS xs L (i + 1)).bind fun v15 =>
    (oS xs L (i + 2)).bind fun v16 =>
    if v16 = 0 then
      (oK τ 0 bm).bind fun _ =>
      (m_Md_credential bm v15 0 τ).bind fun w19 =>
      some (w14.2, w19.2)
    else
      (oK τ 0 bm).bind fun _ =>
      (m_Md_credential bm v15 1 τ).bind fun w21 =>
      some (w14.2, w21.2)
def m_law_C1 (xs : Nat → Int32) (L bx bm : Nat) (i : Int32) (σ τ : fr_S) : Option (fr_S × fr_S) :=
  (oS xs L (i + 1)).bind fun v1 =>
  (oS xs L (i + 2)).bind fun v2 =>
  (oK σ 1 bx).bind fun _ =>
  (m_FR_place bx v1 v2 σ).bind fun w4 =>
  (oS xs L (i + 1)).bind fun v5 =>
  (oS xs L (i + 2)).bind fun v6 =>
  (oK τ 0 bm).bind fun _ =>
  (m_Md_place bm v5 v6 τ).bind fun w8 =>
  some (w4.2, w8.2)
def m_law_C2 (xs : Nat → Int32) (L bx bm : Nat) (i : Int32) (σ τ : fr_S) : Option (fr_S × fr_S) :=
  (oS xs L (i + 1)).bind fun v1 =>
  (oS xs L (i + 2)).bind fun v2 =>
  (oS xs L (i + 3)).bind fun v3 =>
  (oS xs L (i + 4)).bind fun v4 =>
  (oK σ 1 bx).bind fun _ =>
  (m_FR_content bx v1 ((((v2).toInt64 <<< ((32 : Int32).toInt64 &&& 63)) ||| ((v3).toInt64 &&& (4294967295)))) v4 σ).bind fun w6 =>
  (oS xs L (i + 1)).bind fun v7 =>
  (oS xs L (i + 2)).bind fun v8 =>
  (oS xs L (i + 3)).bind fun v9 =>
  (oS xs L (i + 4)).bind fun v10 =>
  (oK τ 0 bm).bind fun _ =>
  (m_Md_content bm v7 ((((v8).toInt64 <<< ((32 : Int32).toInt64 &&& 63)) ||| ((v9).toInt64 &&& (4294967295)))) v10 τ).bind fun w12 =>
  some (w6.2, w12.2)
def m_law_C3 (xs : Nat → Int32) (L bx bm : Nat) (i : Int32) (σ τ : fr_S) : Option (fr_S × fr_S) :=
  (oS xs L (i + 1)).bind fun v1 =>
  (oS xs L (i + 2)).bind fun v2 =>
  (oS xs L (i + 3)).bind fun v3 =>
  (oK σ 1 bx).bind fun _ =>
  (m_FR_does bx v1 v2 v3 σ).bind fun w5 =>
  (oS xs L (i + 1)).bind fun v6 =>
  (oS xs L (i + 2)).bind fun v7 =>
  (oS xs L (i + 3)).bind fun v8 =>
  (oK τ 0 bm).bind fun _ =>
  (m_Md_does bm v6 v7 v8 τ).bind fun w10 =>
  some (w5.2, w10.2)
def m_law_C4 (xs : Nat → Int32) (L bx bm : Nat) (i : Int32) (σ τ : fr_S) : Option (fr_S × fr_S) :=
  (oS xs L (i + 1)).bind fun v1 =>
  (oS xs L (i + 2)).bind fun v2 =>
  (oS xs L (i + 3)).bind fun v3 =>
  (oK σ 1 bx).bind fun _ =>
  (m_FR_cut bx v1 v2 v3 σ).bind fun w5 =>
  (oS xs L (i + 1)).bind fun v6 =>
  (oS xs L (i + 2)).bind fun v7 =>
  (oS xs L (i + 3)).bind fun v8 =>
  (oK τ 0 bm).bind fun _ =>
  (m_Md_cut bm v6 v7 v8 τ).bind fun w10 =>
  some (w5.2, w10.2)
def m_law_C5 (xs : Nat → Int32) (L bx bm : Nat) (i : Int32) (σ τ : fr_S) : Option (fr_S × fr_S) :=
  (oS xs L (i + 1)).bind fun v1 =>
  (oK σ 1 bx).bind fun _ =>
  (m_FR_digest bx v1 σ).bind fun r3 =>
  (oS xs L (i + 1)).bind fun v4 =>
  (oK τ 0 bm).bind fun _ =>
  (m_Md_digest bm v4 τ).bind fun w6 =>
  some (σ, w6.2)
def m_law_C6 (xs : Nat → Int32) (L bx bm : Nat) (i : Int32) (σ τ : fr_S) : Option (fr_S × fr_S) :=
  (oS xs L (i + 1)).bind fun v1 =>
  (oK σ 1 bx).bind fun _ =>
  (m_FR_want bx v1 σ).bind fun w3 =>
  (oS xs L (i + 1)).bind fun v4 =>
  (oK τ 0 bm).bind fun _ =>
  (m_Md_want bm v4 τ).bind fun w6 =>
  some (w3.2, w6.2)
def m_law_C7 (xs : Nat → Int32) (L bx bm : Nat) (i : Int32) (σ τ : fr_S) : Option (fr_S × fr_S) :=
  (oS xs L (i + 1)).bind fun v1 =>
  (oS xs L (i + 2)).bind fun v2 =>
  (oK σ 1 bx).bind fun _ =>
  (m_FR_from bx v1 v2 σ).bind fun w4 =>
  (oS xs L (i + 1)).bind fun v5 =>
  (oS xs L (i + 2)).bind fun v6 =>
  (oK τ 0 bm).bind fun _ =>
  (m_Md_from bm v5 v6 τ).bind fun w8 =>
  some (w4.2, w8.2)
def m_law_C8 (xs : Nat → Int32) (L bx bm : Nat) (i : Int32) (σ τ : fr_S) : Option (fr_S × fr_S) :=
  (oS xs L (i + 1)).bind fun v1 =>
  if v1 = 0 then
    (oK σ 1 bx).bind fun _ =>
    (m_FR_offLine bx 0 σ).bind fun σ_4 =>
    (oS xs L (i + 1)).bind fun v5 =>
    if v5 = 0 then
      (oK τ 0 bm).bind fun _ =>
      (m_Md_offLine bm 0 τ).bind fun σ_8 =>
      some (σ_4, σ_8)
    else
      (oK τ 0 bm).bind fun _ =>
      (m_Md_offLine bm 1 τ).bind fun σ_10 =>
      some (σ_4, σ_10)
  else
    (oK σ 1 bx).bind fun _ =>
    (m_FR_offLine bx 1 σ).bind fun σ_12 =>
    (oS xs L (i + 1)).bind fun v13 =>
    if v13 = 0 then
      (oK τ 0 bm).bind fun _ =>
      (m_Md_offLine bm 0 τ).bind fun σ_16 =>
      some (σ_12, σ_16)
    else
      (oK τ 0 bm).bind fun _ =>
      (m_Md_offLine bm 1 τ).bind fun σ_18 =>
      some (σ_12, σ_18)
def m_law_C9 (xs : Nat → Int32) (L bx bm : Nat) (i : Int32) (σ τ : fr_S) : Option (fr_S × fr_S) :=
  (oS xs L (i + 1)).bind fun v1 =>
  (oK σ 1 bx).bind fun _ =>
  (m_FR_begin bx v1 σ).bind fun w3 =>
  (oS xs L (i + 1)).bind fun v4 =>
  (oK τ 0 bm).bind fun _ =>
  (m_Md_begin bm v4 τ).bind fun w6 =>
  some (w3.2, w6.2)
def m_law_C10 (xs : Nat → Int32) (L bx bm : Nat) (i : Int32) (σ τ : fr_S) : Option (fr_S × fr_S) :=
  (oS xs L (i + 1)).bind fun v1 =>
  (oK σ 1 bx).bind fun _ =>
  (m_FR_tick bx v1 σ).bind fun w3 =>
  (oS xs L (i + 1)).bind fun v4 =>
  (oK τ 0 bm).bind fun _ =>
  (m_Md_tick bm v4 τ).bind fun w6 =>
  some (w3.2, w6.2)
def m_law_C11 (xs : Nat → Int32) (L bx bm : Nat) (i : Int32) (σ τ : fr_S) : Option (fr_S × fr_S) :=
  (oS xs L (i + 1)).bind fun v1 =>
  (oS xs L (i + 2)).bind fun v2 =>
  (oK σ 1 bx).bind fun _ =>
  (m_FR_about bx v1 v2 σ).bind fun r4 =>
  (oS xs L (i + 1)).bind fun v5 =>
  (oS xs L (i + 2)).bind fun v6 =>
  (oK τ 0 bm).bind fun _ =>
  (m_Md_about bm v5 v6 τ).bind fun w8 =>
  some (σ, w8.2)
def m_law_C12 (xs : Nat → Int32) (L bx bm : Nat) (i : Int32) (σ τ : fr_S) : Option (fr_S × fr_S) :=
  (oS xs L (i + 1)).bind fun v1 =>
  (oS xs L (i + 2)).bind fun v2 =>
  (oK σ 1 bx).bind fun _ =>
  (m_FR_byteOf bx v1 v2 σ).bind fun r4 =>
  (oS xs L (i + 1)).bind fun v5 =>
  (oS xs L (i + 2)).bind fun v6 =>
  (oK τ 0 bm).bind fun _ =>
  (m_Md_byteOf bm v5 v6 τ).bind fun w8 =>
  some (σ, w8.2)
def m_law_C13 (xs : Nat → Int32) (L bx bm : Nat) (i : Int32) (σ τ : fr_S) : Option (fr_S × fr_S) :=
  (oS xs L (i + 1)).bind fun v1 =>
  (oS xs L (i + 2)).bind fun v2 =>
  (oK σ 1 bx).bind fun _ =>
  (m_FR_barred bx v1 v2 σ).bind fun r4 =>
  (oS xs L (i + 1)).bind fun v5 =>
  (oS xs L (i + 2)).bind fun v6 =>
  (oK τ 0 bm).bind fun _ =>
  (m_Md_barred bm v5 v6 τ).bind fun w8 =>
  some (σ, w8.2)
def m_law_C14 (xs : Nat → Int32) (L bx bm : Nat) (i : Int32) (σ τ : fr_S) : Option (fr_S × fr_S) :=
  (oS xs L (i + 1)).bind fun v1 =>
  (oK σ 1 bx).bind fun _ =>
  (m_FR_came bx v1 σ).bind fun r3 =>
  (oS xs L (i + 1)).bind fun v4 =>
  (oK τ 0 bm).bind fun _ =>
  (m_Md_came bm v4 τ).bind fun w6 =>
  some (σ, w6.2)
def m_law_C15 (xs : Nat → Int32) (L bx bm : Nat) (i : Int32) (σ τ : fr_S) : Option (fr_S × fr_S) :=
  (oS xs L (i + 1)).bind fun v1 =>
  (oK σ 1 bx).bind fun _ =>
  (m_FR_lacks bx v1 σ).bind fun r3 =>
  (oS xs L (i + 1)).bind fun v4 =>
  (oK τ 0 bm).bind fun _ =>
  (m_Md_lacks bm v4 τ).bind fun w6 =>
  some (σ, w6.2)
def m_law_C16 (xs : Nat → Int32) (L bx bm : Nat) (i : Int32) (σ τ : fr_S) : Option (fr_S × fr_S) :=
  (oS xs L (i + 1)).bind fun v1 =>
  (oK σ 1 bx).bind fun _ =>
  (m_FR_sent bx v1 σ).bind fun r3 =>
  (oS xs L (i + 1)).bind fun v4 =>
  (oK τ 0 bm).bind fun _ =>
  (m_Md_sent bm v4 τ).bind fun w6 =>
  some (σ, w6.2)
def m_law_C17 (xs : Nat → Int32) (L bx bm : Nat) (i : Int32) (σ τ : fr_S) : Option (fr_S × fr_S) :=
  (oS xs L (i + 1)).bind fun v1 =>
  (oS xs L (i + 2)).bind fun v2 =>
  (oK σ 1 bx).bind fun _ =>
  (m_FR_unpack bx v1 v2 σ).bind fun w4 =>
  (oS xs L (i + 1)).bind fun v5 =>
  (oS xs L (i + 2)).bind fun v6 =>
  (oK τ 0 bm).bind fun _ =>
  (m_Md_unpack bm v5 v6 τ).bind fun w8 =>
  some (w4.2, w8.2)
def m_law_C18 (xs : Nat → Int32) (L bx bm : Nat) (i : Int32) (σ τ : fr_S) : Option (fr_S × fr_S) :=
  (oS xs L (i + 1)).bind fun v1 =>
  (oS xs L (i + 2)).bind fun v2 =>
  (oK σ 1 bx).bind fun _ =>
  (m_FR_file bx v1 v2 σ).bind fun r4 =>
  (oS xs L (i + 1)).bind fun v5 =>
  (oS xs L (i + 2)).bind fun v6 =>
  (oK τ 0 bm).bind fun _ =>
  (m_Md_file bm v5 v6 τ).bind fun w8 =>
  if r4 = w8.1 then
    some (σ, w8.2)
  else
    none
def m_law_L (xs : Nat → Int32) (L bx bm : Nat) : Nat → Int32 → fr_S → fr_S → Option Unit
  | 0, _, _, _ => none
  | n + 1, i, σ, τ =>
    if (Int32.ofNat L - 5) < i then
      some ()
    else
      (oS xs L i).bind fun v =>
      if (v &&& 31) = 0 then
        (m_law_C0 xs L bx bm i σ τ).bind fun z => m_law_L xs L bx bm n (i + 5) z.1 z.2
      else
      if (v &&& 31) = 1 then
        (m_law_C1 xs L bx bm i σ τ).bind fun z => m_law_L xs L bx bm n (i + 5) z.1 z.2
      else
      if (v &&& 31) = 2 then
        (m_law_C2 xs L bx bm i σ τ).bind fun z => m_law_L xs L bx bm n (i + 5) z.1 z.2
      else
      if (v &&& 31) = 3 then
        (m_law_C3 xs L bx bm i σ τ).bind fun z => m_law_L xs L bx bm n (i + 5) z.1 z.2
      else
      if (v &&& 31) = 4 then
        (m_law_C4 xs L bx bm i σ τ).bind fun z => m_law_L xs L bx bm n (i + 5) z.1 z.2
      else
      if (v &&& 31) = 5 then
        (m_law_C5 xs L bx bm i σ τ).bind fun z => m_law_L xs L bx bm n (i + 5) z.1 z.2
      else
      if (v &&& 31) = 6 then
        (m_law_C6 xs L bx bm i σ τ).bind fun z => m_law_L xs L bx bm n (i + 5) z.1 z.2
      else
      if (v &&& 31) = 7 then
        (m_law_C7 xs L bx bm i σ τ).bind fun z => m_law_L xs L bx bm n (i + 5) z.1 z.2
      else
      if (v &&& 31) = 8 then
        (m_law_C8 xs L bx bm i σ τ).bind fun z => m_law_L xs L bx bm n (i + 5) z.1 z.2
      else
      if (v &&& 31) = 9 then
        (m_law_C9 xs L bx bm i σ τ).bind fun z => m_law_L xs L bx bm n (i + 5) z.1 z.2
      else
      if (v &&& 31) = 10 then
        (m_law_C10 xs L bx bm i σ τ).bind fun z => m_law_L xs L bx bm n (i + 5) z.1 z.2
      else
      if (v &&& 31) = 11 then
        (m_law_C11 xs L bx bm i σ τ).bind fun z => m_law_L xs L bx bm n (i + 5) z.1 z.2
      else
      if (v &&& 31) = 12 then
        (m_law_C12 xs L bx bm i σ τ).bind fun z => m_law_L xs L bx bm n (i + 5) z.1 z.2
      else
      if (v &&& 31) = 13 then
        (m_law_C13 xs L bx bm i σ τ).bind fun z => m_law_L xs L bx bm n (i + 5) z.1 z.2
      else
      if (v &&& 31) = 14 then
        (m_law_C14 xs L bx bm i σ τ).bind fun z => m_law_L xs L bx bm n (i + 5) z.1 z.2
      else
      if (v &&& 31) = 15 then
        (m_law_C15 xs L bx bm i σ τ).bind fun z => m_law_L xs L bx bm n (i + 5) z.1 z.2
      else
      if (v &&& 31) = 16 then
        (m_law_C16 xs L bx bm i σ τ).bind fun z => m_law_L xs L bx bm n (i + 5) z.1 z.2
      else
      if (v &&& 31) = 17 then
        (m_law_C17 xs L bx bm i σ τ).bind fun z => m_law_L xs L bx bm n (i + 5) z.1 z.2
      else
      if (v &&& 31) = 18 then
        (m_law_C18 xs L bx bm i σ τ).bind fun z => m_law_L xs L bx bm n (i + 5) z.1 z.2
      else
        m_law_L xs L bx bm n (i + 5) σ τ
