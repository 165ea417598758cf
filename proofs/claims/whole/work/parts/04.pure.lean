abbrev SCT : Type := Int32 × Int32 × Int32 × Int32 × Int32 × Int32 × Int64 × Int32
abbrev scv (t : SCT) : va_E := .inr (3, [.int t.1, .int t.2.1, .int t.2.2.1, .int t.2.2.2.1, .int t.2.2.2.2.1, .int t.2.2.2.2.2.1, .long t.2.2.2.2.2.2.1, .int t.2.2.2.2.2.2.2])
/- Int.bitCount(I)I -/
def p_I_bitCount (a1 : Int32) : Option Int32 := kl (a1 - (((a1.toUInt32 >>> ((1 : Int32).toUInt32 &&& Int32.toUInt32 31)).toInt32) &&& 1431655765) : Int32) (fun v_1 => kl ((v_1 &&& 858993459) + (((v_1.toUInt32 >>> ((2 : Int32).toUInt32 &&& Int32.toUInt32 31)).toInt32) &&& 858993459) : Int32) (fun v_2 => kl ((v_2 + ((v_2.toUInt32 >>> ((4 : Int32).toUInt32 &&& Int32.toUInt32 31)).toInt32)) &&& 252645135 : Int32) (fun v_3 => kl (v_3 + ((v_3.toUInt32 >>> ((8 : Int32).toUInt32 &&& Int32.toUInt32 31)).toInt32) : Int32) (fun v_4 => kl (v_4 + ((v_4.toUInt32 >>> ((16 : Int32).toUInt32 &&& Int32.toUInt32 31)).toInt32) : Int32) (fun v_5 => some (v_5 &&& 63))))))

/- Disk.powered()Z -/
def p_D_powered (pw : Int32) : Option Int32 := if pw &&& 1 = pw then (some pw) else none

/- Disk.writesDone()I -/
def p_D_writesDone (wn : Int32) : Option Int32 := some wn

/- Disk.word(II)I -/
def p_D_word (dk : Nat → Int32) (a1 : Int32) (a2 : Int32) : Option Int32 := if kx_in ((a1 * 16) + a2) 528 then (some (dk ((a1 * 16) + a2).toNatClampNeg)) else none

/- Disk.powerOn()V -/
def p_D_powerOn (pw : Int32) : Option Int32 := some 1

/- Disk.failAfter(I)V -/
def p_D_failAfter (wl : Int32) (a1 : Int32) : Option Int32 := some a1

/- Disk.wipe()V -/
def p_D_wipe_2 (k_2 : Int32 → Int32 → Int32 → (Nat → Int32) → Option (Int32 × Int32 × (Nat → Int32))) (x1 : Int32) (pw : Int32) (wl : Int32) (dk : Nat → Int32) : Option (Int32 × Int32 × (Nat → Int32)) := if 528 ≤ x1 then (some (1, (-1), dk)) else (if kx_in x1 528 then (k_2 (x1 + 1) pw wl (upd dk x1.toNatClampNeg 0)) else none)
def pl_D_wipe_2 : Nat → Int32 → Int32 → Int32 → (Nat → Int32) → Option (Int32 × Int32 × (Nat → Int32))
  | 0 => fun _ _ _ _ => none
  | n + 1 => p_D_wipe_2 (pl_D_wipe_2 n)
def p_D_wipe (pw : Int32) (wl : Int32) (dk : Nat → Int32) : Option (Int32 × Int32 × (Nat → Int32)) := pl_D_wipe_2 1000 0 pw wl dk

/- Disk.write(I[II)Z -/
def p_D_writeE_36 (nx : Nat) (ex : Nat → Int32) (x1 : Int32) (x3 : Int32) (pw : Int32) (wl : Int32) (wn : Int32) (dk : Nat → Int32) : Option (Int32 × Int32 × Int32 × Int32 × (Nat → Int32)) := if kx_cp (x3 * 16) (x1 * 16) 16 nx 528 then (some (1, pw, wl, wn + 1, va_cpy ex dk (x3 * 16).toNatClampNeg (x1 * 16).toNatClampNeg (16 : Int32).toNatClampNeg)) else none
def p_D_writeE (pw : Int32) (wl : Int32) (wn : Int32) (dk : Nat → Int32) (nx : Nat) (ex : Nat → Int32) (a1 : Int32) (a3 : Int32) : Option (Int32 × Int32 × Int32 × Int32 × (Nat → Int32)) := if wl = 0 then (some (0, 0, (-1), wn, dk)) else (if wl ≤ 0 then (p_D_writeE_36 nx ex a1 a3 pw wl wn dk) else (p_D_writeE_36 nx ex a1 a3 pw (wl - 1) wn dk))

/- Disk.write(I[II)Z -/
def p_D_writeD_36 (x1 : Int32) (x3 : Int32) (pw : Int32) (wl : Int32) (wn : Int32) (dk : Nat → Int32) : Option (Int32 × Int32 × Int32 × Int32 × (Nat → Int32)) := if kx_cp (x3 * 16) (x1 * 16) 16 528 528 then (some (1, pw, wl, wn + 1, va_cpy dk dk (x3 * 16).toNatClampNeg (x1 * 16).toNatClampNeg (16 : Int32).toNatClampNeg)) else none
def p_D_writeD (pw : Int32) (wl : Int32) (wn : Int32) (dk : Nat → Int32) (a1 : Int32) (a3 : Int32) : Option (Int32 × Int32 × Int32 × Int32 × (Nat → Int32)) := if wl = 0 then (some (0, 0, (-1), wn, dk)) else (if wl ≤ 0 then (p_D_writeD_36 a1 a3 pw wl wn dk) else (p_D_writeD_36 a1 a3 pw (wl - 1) wn dk))

/- Disk.copyBlock(II)Z -/
def p_D_copyBlock (pw : Int32) (wl : Int32) (wn : Int32) (dk : Nat → Int32) (a1 : Int32) (a2 : Int32) : Option (Int32 × Int32 × Int32 × Int32 × (Nat → Int32)) := (p_D_writeD pw wl wn dk a1 a2).bind (fun r_1 => if r_1.1 &&& 1 = r_1.1 then (some (r_1.1, r_1.2.1, r_1.2.2.1, r_1.2.2.2.1, r_1.2.2.2.2)) else none)

/- Memory.load(LJournaledTables$Disk;)V -/
def p_M_load (mm : Nat → Int32) (dk : Nat → Int32) : Option ((Nat → Int32)) := if kx_cp 0 0 256 528 256 then (some (va_cpy dk mm (0 : Int32).toNatClampNeg (0 : Int32).toNatClampNeg (256 : Int32).toNatClampNeg)) else none

/- Memory.differs(LJournaledTables$Disk;I)Z -/
def p_M_differs_8 (mm : Nat → Int32) (dk : Nat → Int32) (k_8 : Int32 → Int32 → Option Int32) (x3 : Int32) (x4 : Int32) : Option Int32 := if (x3 + 16) ≤ x4 then (some 0) else (if kx_in x4 256 then (if kx_in x4 528 then (if (mm x4.toNatClampNeg) = (dk x4.toNatClampNeg) then (k_8 x3 (x4 + 1)) else (some 1)) else none) else none)
def pl_M_differs_8 (mm : Nat → Int32) (dk : Nat → Int32) : Nat → Int32 → Int32 → Option Int32
  | 0 => fun _ _ => none
  | n + 1 => p_M_differs_8 mm dk (pl_M_differs_8 mm dk n)
def p_M_differs (mm : Nat → Int32) (dk : Nat → Int32) (a2 : Int32) : Option Int32 := kl (a2 * 16 : Int32) (fun v_5 => pl_M_differs_8 mm dk 1000 v_5 v_5)

/- Memory.save(LJournaledTables$Disk;I)Z -/
def p_M_save (mm : Nat → Int32) (pw : Int32) (wl : Int32) (wn : Int32) (dk : Nat → Int32) (a2 : Int32) : Option (Int32 × Int32 × Int32 × Int32 × (Nat → Int32)) := (p_D_writeE pw wl wn dk 256 mm a2 a2).bind (fun r_1 => if r_1.1 &&& 1 = r_1.1 then (some (r_1.1, r_1.2.1, r_1.2.2.1, r_1.2.2.2.1, r_1.2.2.2.2)) else none)

/- Memory.word(I)I -/
def p_M_word (mm : Nat → Int32) (a1 : Int32) : Option Int32 := if kx_in a1 256 then (some (mm a1.toNatClampNeg)) else none

/- Memory.setWord(II)V -/
def p_M_setWord (mm : Nat → Int32) (a1 : Int32) (a2 : Int32) : Option ((Nat → Int32)) := if kx_in a1 256 then (some (upd mm a1.toNatClampNeg a2)) else none

/- Memory.hasTable(I)Z -/
def p_M_hasTable_23 (mm : Nat → Int32) (z0 : Int32) : Option Int32 := if z0 &&& 1 = z0 then (some z0) else none
def p_M_hasTable_22 (mm : Nat → Int32) : Option Int32 := p_M_hasTable_23 mm 0
def p_M_hasTable (mm : Nat → Int32) (a1 : Int32) : Option Int32 := if a1 < 0 then (p_M_hasTable_22 mm) else (if 5 ≤ a1 then (p_M_hasTable_22 mm) else (if kx_in a1 256 then (if (mm a1.toNatClampNeg) = 0 then (p_M_hasTable_22 mm) else (p_M_hasTable_23 mm 1)) else none))

/- Memory.width(I)I -/
def p_M_width_18 (mm : Nat → Int32) (z0 : Int32) : Option Int32 := some z0
def p_M_width (mm : Nat → Int32) (a1 : Int32) : Option Int32 := (p_M_hasTable mm a1).bind (fun r_1 => if r_1 = 0 then (p_M_width_18 mm 0) else (if kx_in a1 256 then (p_M_width_18 mm (mm a1.toNatClampNeg)) else none))

/- Memory.hasCol(II)Z -/
def p_M_hasCol_18 (mm : Nat → Int32) (z0 : Int32) : Option Int32 := if z0 &&& 1 = z0 then (some z0) else none
def p_M_hasCol_17 (mm : Nat → Int32) : Option Int32 := p_M_hasCol_18 mm 0
def p_M_hasCol (mm : Nat → Int32) (a1 : Int32) (a2 : Int32) : Option Int32 := if a2 < 0 then (p_M_hasCol_17 mm) else ((p_M_width mm a1).bind (fun r_3 => if r_3 ≤ a2 then (p_M_hasCol_17 mm) else (p_M_hasCol_18 mm 1)))

/- Memory.freeTable()I -/
def p_M_freeTable_2 (mm : Nat → Int32) (k_2 : Int32 → Option Int32) (x1 : Int32) : Option Int32 := if 5 ≤ x1 then (some (-1)) else (if kx_in x1 256 then (if (mm x1.toNatClampNeg) = 0 then (some x1) else (k_2 (x1 + 1))) else none)
def pl_M_freeTable_2 (mm : Nat → Int32) : Nat → Int32 → Option Int32
  | 0 => fun _ => none
  | n + 1 => p_M_freeTable_2 mm (pl_M_freeTable_2 mm n)
def p_M_freeTable (mm : Nat → Int32) : Option Int32 := pl_M_freeTable_2 mm 1000 0

/- Memory.addTable(II)V -/
def p_M_addTable (mm : Nat → Int32) (a1 : Int32) (a2 : Int32) : Option ((Nat → Int32)) := if kx_in a1 256 then (some (upd mm a1.toNatClampNeg a2)) else none

/- Memory.isPageOf(II)Z -/
def p_M_isPageOf_31 (mm : Nat → Int32) (z0 : Int32) : Option Int32 := if z0 &&& 1 = z0 then (some z0) else none
def p_M_isPageOf_30 (mm : Nat → Int32) : Option Int32 := p_M_isPageOf_31 mm 0
def p_M_isPageOf (mm : Nat → Int32) (a1 : Int32) (a2 : Int32) : Option Int32 := if a2 < 1 then (p_M_isPageOf_30 mm) else (if 16 ≤ a2 then (p_M_isPageOf_30 mm) else (if kx_in (a2 * 16) 256 then (if (mm (a2 * 16).toNatClampNeg) = (a1 + 1) then (p_M_isPageOf_31 mm 1) else (p_M_isPageOf_30 mm)) else none))

/- Memory.hasRow(II)Z -/
def p_M_hasRow_24 (mm : Nat → Int32) (z0 : Int32) : Option Int32 := if z0 &&& 1 = z0 then (some z0) else none
def p_M_hasRow (mm : Nat → Int32) (a1 : Int32) (a2 : Int32) : Option Int32 := if kx_in ((a1 * 16) + 2) 256 then (if (((mm ((a1 * 16) + 2).toNatClampNeg) >>> (a2 &&& 31)) &&& 1) = 1 then (p_M_hasRow_24 mm 1) else (p_M_hasRow_24 mm 0)) else none

/- Memory.rowAt(III)I -/
def p_M_rowAt (mm : Nat → Int32) (a1 : Int32) (a2 : Int32) (a3 : Int32) : Option Int32 := (p_M_width mm a1).bind (fun r_1 => some (((a2 * 16) + 3) + (a3 * r_1)))

/- Memory.slots(I)I -/
def p_M_slots_18 (mm : Nat → Int32) (z0 : Int32) : Option Int32 := some z0
def p_M_slots (mm : Nat → Int32) (a1 : Int32) : Option Int32 := (p_M_width mm a1).bind (fun r_1 => if r_1 = 0 then (p_M_slots_18 mm 0) else (if ¬ r_1 = 0 then (p_M_slots_18 mm (13 / r_1)) else none))

/- Memory.clear(II)V -/
def p_M_clear_2 (k_2 : Int32 → Int32 → Int32 → (Nat → Int32) → Option ((Nat → Int32))) (x1 : Int32) (x2 : Int32) (x3 : Int32) (mm : Nat → Int32) : Option ((Nat → Int32)) := if (x1 + x2) ≤ x3 then (some mm) else (if kx_in x3 256 then (k_2 x1 x2 (x3 + 1) (upd mm x3.toNatClampNeg 0)) else none)
def pl_M_clear_2 : Nat → Int32 → Int32 → Int32 → (Nat → Int32) → Option ((Nat → Int32))
  | 0 => fun _ _ _ _ => none
  | n + 1 => p_M_clear_2 (pl_M_clear_2 n)
def p_M_clear (mm : Nat → Int32) (a1 : Int32) (a2 : Int32) : Option ((Nat → Int32)) := pl_M_clear_2 1000 a1 a2 a1 mm

/- Memory.removeTable(I)V -/
def p_M_removeTable_27 (k_2 : Int32 → Int32 → (Nat → Int32) → Option ((Nat → Int32))) (x1 : Int32) (x2 : Int32) (mm : Nat → Int32) : Option ((Nat → Int32)) := k_2 x1 (x2 + 1) mm
def p_M_removeTable_2 (k_2 : Int32 → Int32 → (Nat → Int32) → Option ((Nat → Int32))) (x1 : Int32) (x2 : Int32) (mm : Nat → Int32) : Option ((Nat → Int32)) := if 16 ≤ x2 then (if kx_in (8 + x1) 256 then (if kx_in x1 256 then (some (upd (upd mm (8 + x1).toNatClampNeg 0) x1.toNatClampNeg 0)) else none) else none) else ((p_M_isPageOf mm x1 x2).bind (fun r_4 => if r_4 = 0 then (p_M_removeTable_27 k_2 x1 x2 mm) else ((p_M_clear mm (x2 * 16) 16).bind (fun r_6 => p_M_removeTable_27 k_2 x1 x2 r_6))))
def pl_M_removeTable_2 : Nat → Int32 → Int32 → (Nat → Int32) → Option ((Nat → Int32))
  | 0 => fun _ _ _ => none
  | n + 1 => p_M_removeTable_2 (pl_M_removeTable_2 n)
def p_M_removeTable (mm : Nat → Int32) (a1 : Int32) : Option ((Nat → Int32)) := pl_M_removeTable_2 1000 a1 1 mm

/- Memory.leastRow(IIIIJ)I -/
def p_M_leastRow_150 (mm : Nat → Int32) (k_13 : Int32 → Int32 → Int32 → Int32 → Int64 → Int32 → Int32 → Int32 → Option Int32) (k_41 : Int32 → Int32 → Int32 → Int32 → Int64 → Int32 → Int32 → Int32 → Int32 → Int32 → Option Int32) (x1 : Int32) (x2 : Int32) (x3 : Int32) (x4 : Int32) (x5 : Int64) (x7 : Int32) (x8 : Int32) (x9 : Int32) (x10 : Int32) (x11 : Int32) : Option Int32 := k_41 x1 x2 x3 x4 x5 x7 x8 x9 x10 (x11 + 1)
def p_M_leastRow_146 (mm : Nat → Int32) (k_13 : Int32 → Int32 → Int32 → Int32 → Int64 → Int32 → Int32 → Int32 → Option Int32) (k_41 : Int32 → Int32 → Int32 → Int32 → Int64 → Int32 → Int32 → Int32 → Int32 → Int32 → Option Int32) (x1 : Int32) (x2 : Int32) (x3 : Int32) (x4 : Int32) (x5 : Int64) (x8 : Int32) (x9 : Int32) (x10 : Int32) (x11 : Int32) (x12 : Int32) : Option Int32 := p_M_leastRow_150 mm k_13 k_41 x1 x2 x3 x4 x5 x12 x8 x9 x10 x11
def p_M_leastRow_116 (mm : Nat → Int32) (k_13 : Int32 → Int32 → Int32 → Int32 → Int64 → Int32 → Int32 → Int32 → Option Int32) (k_41 : Int32 → Int32 → Int32 → Int32 → Int64 → Int32 → Int32 → Int32 → Int32 → Int32 → Option Int32) (x1 : Int32) (x2 : Int32) (x3 : Int32) (x4 : Int32) (x5 : Int64) (x7 : Int32) (x8 : Int32) (x9 : Int32) (x10 : Int32) (x11 : Int32) (x12 : Int32) (z0 : Int32) : Option Int32 := if z0 = 0 then (p_M_leastRow_150 mm k_13 k_41 x1 x2 x3 x4 x5 x7 x8 x9 x10 x11) else (if x7 = (-1) then (p_M_leastRow_146 mm k_13 k_41 x1 x2 x3 x4 x5 x8 x9 x10 x11 x12) else (if kx_in x12 256 then (if kx_in x7 256 then (if (mm x7.toNatClampNeg) ≤ (mm x12.toNatClampNeg) then (p_M_leastRow_150 mm k_13 k_41 x1 x2 x3 x4 x5 x7 x8 x9 x10 x11) else (p_M_leastRow_146 mm k_13 k_41 x1 x2 x3 x4 x5 x8 x9 x10 x11 x12)) else none) else none))
def p_M_leastRow_115 (mm : Nat → Int32) (k_13 : Int32 → Int32 → Int32 → Int32 → Int64 → Int32 → Int32 → Int32 → Option Int32) (k_41 : Int32 → Int32 → Int32 → Int32 → Int64 → Int32 → Int32 → Int32 → Int32 → Int32 → Option Int32) (x1 : Int32) (x2 : Int32) (x3 : Int32) (x4 : Int32) (x5 : Int64) (x7 : Int32) (x8 : Int32) (x9 : Int32) (x10 : Int32) (x11 : Int32) (x12 : Int32) : Option Int32 := p_M_leastRow_116 mm k_13 k_41 x1 x2 x3 x4 x5 x7 x8 x9 x10 x11 x12 0
def p_M_leastRow_41 (mm : Nat → Int32) (k_13 : Int32 → Int32 → Int32 → Int32 → Int64 → Int32 → Int32 → Int32 → Option Int32) (k_41 : Int32 → Int32 → Int32 → Int32 → Int64 → Int32 → Int32 → Int32 → Int32 → Int32 → Option Int32) (x1 : Int32) (x2 : Int32) (x3 : Int32) (x4 : Int32) (x5 : Int64) (x7 : Int32) (x8 : Int32) (x9 : Int32) (x10 : Int32) (x11 : Int32) : Option Int32 := if x10 ≤ x11 then (k_13 x1 x2 x3 x4 x5 x7 x8 (x9 + 1)) else ((p_M_rowAt mm x1 x9 x11).bind (fun r_7 => (p_M_hasRow mm x9 x11).bind (fun r_8 => if r_8 = 0 then (p_M_leastRow_115 mm k_13 k_41 x1 x2 x3 x4 x5 x7 x8 x9 x10 x11 r_7) else (if kx_in r_7 256 then (if (lg_cmp ((mm r_7.toNatClampNeg).toInt64) x5) ≤ 0 then (p_M_leastRow_115 mm k_13 k_41 x1 x2 x3 x4 x5 x7 x8 x9 x10 x11 r_7) else (if kx_in (r_7 + x2) 256 then (if (mm (r_7 + x2).toNatClampNeg) < x3 then (p_M_leastRow_115 mm k_13 k_41 x1 x2 x3 x4 x5 x7 x8 x9 x10 x11 r_7) else (if kx_in (r_7 + x2) 256 then (if x4 < (mm (r_7 + x2).toNatClampNeg) then (p_M_leastRow_115 mm k_13 k_41 x1 x2 x3 x4 x5 x7 x8 x9 x10 x11 r_7) else (p_M_leastRow_116 mm k_13 k_41 x1 x2 x3 x4 x5 x7 x8 x9 x10 x11 r_7 1)) else none)) else none)) else none))))
def pl_M_leastRow_41 (mm : Nat → Int32) (k_13 : Int32 → Int32 → Int32 → Int32 → Int64 → Int32 → Int32 → Int32 → Option Int32) : Nat → Int32 → Int32 → Int32 → Int32 → Int64 → Int32 → Int32 → Int32 → Int32 → Int32 → Option Int32
  | 0 => fun _ _ _ _ _ _ _ _ _ _ => none
  | n + 1 => p_M_leastRow_41 mm k_13 (pl_M_leastRow_41 mm k_13 n)
def p_M_leastRow_36 (mm : Nat → Int32) (k_13 : Int32 → Int32 → Int32 → Int32 → Int64 → Int32 → Int32 → Int32 → Option Int32) (x1 : Int32) (x2 : Int32) (x3 : Int32) (x4 : Int32) (x5 : Int64) (x7 : Int32) (x8 : Int32) (x9 : Int32) (z0 : Int32) : Option Int32 := pl_M_leastRow_41 mm k_13 1000 x1 x2 x3 x4 x5 x7 x8 x9 z0 0
def p_M_leastRow_13 (mm : Nat → Int32) (k_13 : Int32 → Int32 → Int32 → Int32 → Int64 → Int32 → Int32 → Int32 → Option Int32) (x1 : Int32) (x2 : Int32) (x3 : Int32) (x4 : Int32) (x5 : Int64) (x7 : Int32) (x8 : Int32) (x9 : Int32) : Option Int32 := if 16 ≤ x9 then (some x7) else ((p_M_isPageOf mm x1 x9).bind (fun r_17 => if r_17 = 0 then (p_M_leastRow_36 mm k_13 x1 x2 x3 x4 x5 x7 x8 x9 0) else (p_M_leastRow_36 mm k_13 x1 x2 x3 x4 x5 x7 x8 x9 x8)))
def pl_M_leastRow_13 (mm : Nat → Int32) : Nat → Int32 → Int32 → Int32 → Int32 → Int64 → Int32 → Int32 → Int32 → Option Int32
  | 0 => fun _ _ _ _ _ _ _ _ => none
  | n + 1 => p_M_leastRow_13 mm (pl_M_leastRow_13 mm n)
def p_M_leastRow (mm : Nat → Int32) (a1 : Int32) (a2 : Int32) (a3 : Int32) (a4 : Int32) (a5 : Int64) : Option Int32 := (p_M_slots mm a1).bind (fun r_19 => pl_M_leastRow_13 mm 1000 a1 a2 a3 a4 a5 (-1) r_19 1)

/- Memory.rowOf(II)I -/
def p_M_rowOf (mm : Nat → Int32) (a1 : Int32) (a2 : Int32) : Option Int32 := (p_M_leastRow mm a1 0 a2 a2 (a2.toInt64 - 1)).bind (fun r_1 => some r_1)

/- Memory.rowsOf(I)I -/
def p_M_rowsOf_36 (mm : Nat → Int32) (k_4 : Int32 → Int32 → Int32 → Option Int32) (x1 : Int32) (x2 : Int32) (x3 : Int32) : Option Int32 := k_4 x1 x2 (x3 + 1)
def p_M_rowsOf_4 (mm : Nat → Int32) (k_4 : Int32 → Int32 → Int32 → Option Int32) (x1 : Int32) (x2 : Int32) (x3 : Int32) : Option Int32 := if 16 ≤ x3 then (some x2) else ((p_M_isPageOf mm x1 x3).bind (fun r_2 => if r_2 = 0 then (p_M_rowsOf_36 mm k_4 x1 x2 x3) else (if kx_in ((x3 * 16) + 2) 256 then ((p_I_bitCount (mm ((x3 * 16) + 2).toNatClampNeg)).bind (fun r_5 => kl (x2 + r_5 : Int32) (fun v_6 => p_M_rowsOf_36 mm k_4 x1 v_6 x3))) else none)))
def pl_M_rowsOf_4 (mm : Nat → Int32) : Nat → Int32 → Int32 → Int32 → Option Int32
  | 0 => fun _ _ _ => none
  | n + 1 => p_M_rowsOf_4 mm (pl_M_rowsOf_4 mm n)
def p_M_rowsOf (mm : Nat → Int32) (a1 : Int32) : Option Int32 := pl_M_rowsOf_4 mm 1000 a1 0 1

/- Memory.freePage()I -/
def p_M_freePage_2 (mm : Nat → Int32) (k_2 : Int32 → Option Int32) (x1 : Int32) : Option Int32 := if 16 ≤ x1 then (some 0) else (if kx_in (x1 * 16) 256 then (if (mm (x1 * 16).toNatClampNeg) = 0 then (some x1) else (k_2 (x1 + 1))) else none)
def pl_M_freePage_2 (mm : Nat → Int32) : Nat → Int32 → Option Int32
  | 0 => fun _ => none
  | n + 1 => p_M_freePage_2 mm (pl_M_freePage_2 mm n)
def p_M_freePage (mm : Nat → Int32) : Option Int32 := pl_M_freePage_2 mm 1000 1

/- Memory.freeSlot(II)I -/
def p_M_freeSlot_2 (mm : Nat → Int32) (k_2 : Int32 → Int32 → Int32 → Option Int32) (x1 : Int32) (x2 : Int32) (x3 : Int32) : Option Int32 := (p_M_slots mm x1).bind (fun r_1 => if r_1 ≤ x3 then (some (-1)) else ((p_M_hasRow mm x2 x3).bind (fun r_3 => if r_3 = 0 then (some x3) else (k_2 x1 x2 (x3 + 1)))))
def pl_M_freeSlot_2 (mm : Nat → Int32) : Nat → Int32 → Int32 → Int32 → Option Int32
  | 0 => fun _ _ _ => none
  | n + 1 => p_M_freeSlot_2 mm (pl_M_freeSlot_2 mm n)
def p_M_freeSlot (mm : Nat → Int32) (a1 : Int32) (a2 : Int32) : Option Int32 := pl_M_freeSlot_2 mm 1000 a1 a2 0

/- Memory.pageWithRoom(I)I -/
def p_M_pageWithRoom_57 (mm : Nat → Int32) : Option Int32 := some 0
def p_M_pageWithRoom_12 (mm : Nat → Int32) (k_12 : Int32 → Int32 → Int32 → Option Int32) (x1 : Int32) (x2 : Int32) (x3 : Int32) : Option Int32 := if 16 ≤ x3 then (p_M_pageWithRoom_57 mm) else ((p_M_isPageOf mm x1 x2).bind (fun r_2 => if r_2 = 0 then (p_M_pageWithRoom_57 mm) else ((p_M_freeSlot mm x1 x2).bind (fun r_4 => if r_4 = (-1) then (if kx_in ((x2 * 16) + 1) 256 then (kl (mm ((x2 * 16) + 1).toNatClampNeg : Int32) (fun v_7 => k_12 x1 v_7 (x3 + 1))) else none) else (some x2)))))
def pl_M_pageWithRoom_12 (mm : Nat → Int32) : Nat → Int32 → Int32 → Int32 → Option Int32
  | 0 => fun _ _ _ => none
  | n + 1 => p_M_pageWithRoom_12 mm (pl_M_pageWithRoom_12 mm n)
def p_M_pageWithRoom (mm : Nat → Int32) (a1 : Int32) : Option Int32 := if kx_in (8 + a1) 256 then (kl (mm (8 + a1).toNatClampNeg : Int32) (fun v_9 => pl_M_pageWithRoom_12 mm 1000 a1 v_9 0)) else none

/- Memory.linkTo(II)I -/
def p_M_linkTo_59 (mm : Nat → Int32) (x3 : Int32) : Option Int32 := some x3
def p_M_linkTo_8 (mm : Nat → Int32) (k_8 : Int32 → Int32 → Int32 → Int32 → Option Int32) (x1 : Int32) (x2 : Int32) (x3 : Int32) (x4 : Int32) : Option Int32 := if 16 ≤ x4 then (p_M_linkTo_59 mm x3) else (if kx_in x3 256 then (if (mm x3.toNatClampNeg) = x2 then (p_M_linkTo_59 mm x3) else (if kx_in x3 256 then ((p_M_isPageOf mm x1 (mm x3.toNatClampNeg)).bind (fun r_5 => if r_5 = 0 then (some x3) else (if kx_in x3 256 then (kl (((mm x3.toNatClampNeg) * 16) + 1 : Int32) (fun v_8 => k_8 x1 x2 v_8 (x4 + 1))) else none))) else none)) else none)
def pl_M_linkTo_8 (mm : Nat → Int32) : Nat → Int32 → Int32 → Int32 → Int32 → Option Int32
  | 0 => fun _ _ _ _ => none
  | n + 1 => p_M_linkTo_8 mm (pl_M_linkTo_8 mm n)
def p_M_linkTo (mm : Nat → Int32) (a1 : Int32) (a2 : Int32) : Option Int32 := kl (8 + a1 : Int32) (fun v_9 => pl_M_linkTo_8 mm 1000 a1 a2 v_9 0)

/- Memory.putRow(III[I)V -/
def p_M_putRow (mm : Nat → Int32) (sg : Nat → Int32) (a1 : Int32) (a2 : Int32) (a3 : Int32) : Option ((Nat → Int32)) := (p_M_rowAt mm a1 a2 a3).bind (fun r_1 => (p_M_width mm a1).bind (fun r_2 => if kx_cp 0 r_1 r_2 6 256 then (if kx_in ((a2 * 16) + 2) 256 then (if kx_in ((a2 * 16) + 2) 256 then (some (upd (va_cpy sg mm (0 : Int32).toNatClampNeg r_1.toNatClampNeg r_2.toNatClampNeg) ((a2 * 16) + 2).toNatClampNeg (((va_cpy sg mm (0 : Int32).toNatClampNeg r_1.toNatClampNeg r_2.toNatClampNeg) ((a2 * 16) + 2).toNatClampNeg) ||| ((1 : Int32) <<< (a3 &&& 31))))) else none) else none) else none))

/- Memory.addRow(I[I)Z -/
def p_M_addRow (mm : Nat → Int32) (sg : Nat → Int32) (a1 : Int32) : Option (Int32 × (Nat → Int32)) := (p_M_pageWithRoom mm a1).bind (fun r_1 => if r_1 = 0 then ((p_M_freePage mm).bind (fun r_3 => if r_3 = 0 then (some (0, mm)) else ((p_M_linkTo mm a1 0).bind (fun r_5 => if kx_in r_5 256 then (if kx_in (r_3 * 16) 256 then ((p_M_putRow (upd (upd mm r_5.toNatClampNeg r_3) (r_3 * 16).toNatClampNeg (a1 + 1)) sg a1 r_3 0).bind (fun r_8 => some (1, r_8))) else none) else none)))) else ((p_M_freeSlot mm a1 r_1).bind (fun r_9 => (p_M_putRow mm sg a1 r_1 r_9).bind (fun r_10 => some (1, r_10)))))

/- Memory.removeRow(II)V -/
def p_M_removeRow_110 (mm : Nat → Int32) : Option ((Nat → Int32)) := some mm
def p_M_removeRow_54 (k_14 : Int32 → Int32 → Int32 → Int32 → Int32 → (Nat → Int32) → Option ((Nat → Int32))) (x1 : Int32) (x2 : Int32) (x3 : Int32) (x4 : Int32) (x5 : Int32) (mm : Nat → Int32) : Option ((Nat → Int32)) := k_14 x1 x2 x3 x4 (x5 + 1) mm
def p_M_removeRow_14 (k_14 : Int32 → Int32 → Int32 → Int32 → Int32 → (Nat → Int32) → Option ((Nat → Int32))) (x1 : Int32) (x2 : Int32) (x3 : Int32) (x4 : Int32) (x5 : Int32) (mm : Nat → Int32) : Option ((Nat → Int32)) := (p_M_slots mm x1).bind (fun r_1 => if r_1 ≤ x5 then ((p_M_width mm x1).bind (fun r_3 => (p_M_clear mm x2 r_3).bind (fun r_4 => if kx_in (x4 + 2) 256 then (if (r_4 (x4 + 2).toNatClampNeg) = 0 then ((p_M_linkTo r_4 x1 x3).bind (fun r_7 => if kx_in (x4 + 1) 256 then (if kx_in r_7 256 then ((p_M_clear (upd r_4 r_7.toNatClampNeg (r_4 (x4 + 1).toNatClampNeg)) x4 16).bind (fun r_10 => p_M_removeRow_110 r_10)) else none) else none)) else (p_M_removeRow_110 r_4)) else none))) else ((p_M_rowAt mm x1 x3 x5).bind (fun r_11 => if r_11 = x2 then (if kx_in (x4 + 2) 256 then (if kx_in (x4 + 2) 256 then (p_M_removeRow_54 k_14 x1 x2 x3 x4 x5 (upd mm (x4 + 2).toNatClampNeg ((mm (x4 + 2).toNatClampNeg) &&& (((1 : Int32) <<< (x5 &&& 31)) ^^^ (-1))))) else none) else none) else (p_M_removeRow_54 k_14 x1 x2 x3 x4 x5 mm))))
def pl_M_removeRow_14 : Nat → Int32 → Int32 → Int32 → Int32 → Int32 → (Nat → Int32) → Option ((Nat → Int32))
  | 0 => fun _ _ _ _ _ _ => none
  | n + 1 => p_M_removeRow_14 (pl_M_removeRow_14 n)
def p_M_removeRow (mm : Nat → Int32) (a1 : Int32) (a2 : Int32) : Option ((Nat → Int32)) := kl (a2 / 16 : Int32) (fun v_15 => kl (v_15 * 16 : Int32) (fun v_16 => pl_M_removeRow_14 1000 a1 a2 v_15 v_16 0 mm))

/- Journal.contains(II)Z -/
def p_J_contains_14 (z0 : Int32) : Option Int32 := if z0 &&& 1 = z0 then (some z0) else none
def p_J_contains (a1 : Int32) (a2 : Int32) : Option Int32 := if ((a1 >>> (a2 &&& 31)) &&& 1) = 1 then (p_J_contains_14 1) else (p_J_contains_14 0)

/- Journal.imageOf(II)I -/
def p_J_imageOf (a1 : Int32) (a2 : Int32) : Option Int32 := (p_I_bitCount (a1 &&& (((1 : Int32) <<< (a2 &&& 31)) - 1))).bind (fun r_1 => some (17 + r_1))

/- Journal.changedBlocks()I -/
def p_J_changedBlocks_31 (dk : Nat → Int32) (mm : Nat → Int32) (k_4 : Int32 → Int32 → Option Int32) (x1 : Int32) (x2 : Int32) : Option Int32 := k_4 x1 (x2 + 1)
def p_J_changedBlocks_4 (dk : Nat → Int32) (mm : Nat → Int32) (k_4 : Int32 → Int32 → Option Int32) (x1 : Int32) (x2 : Int32) : Option Int32 := if 16 ≤ x2 then (some x1) else ((p_M_differs mm dk x2).bind (fun r_2 => if r_2 = 0 then (p_J_changedBlocks_31 dk mm k_4 x1 x2) else (kl (x1 ||| ((1 : Int32) <<< (x2 &&& 31)) : Int32) (fun v_4 => p_J_changedBlocks_31 dk mm k_4 v_4 x2))))
def pl_J_changedBlocks_4 (dk : Nat → Int32) (mm : Nat → Int32) : Nat → Int32 → Int32 → Option Int32
  | 0 => fun _ _ => none
  | n + 1 => p_J_changedBlocks_4 dk mm (pl_J_changedBlocks_4 dk mm n)
def p_J_changedBlocks (dk : Nat → Int32) (mm : Nat → Int32) : Option Int32 := pl_J_changedBlocks_4 dk mm 1000 0 0

/- Journal.keepImages(I)Z -/
def p_J_keepImages_34 (k_2 : Int32 → Int32 → Int32 → Int32 → Int32 → (Nat → Int32) → Option (Int32 × Int32 × Int32 × Int32 × (Nat → Int32))) (x1 : Int32) (x2 : Int32) (pw : Int32) (wl : Int32) (wn : Int32) (dk : Nat → Int32) : Option (Int32 × Int32 × Int32 × Int32 × (Nat → Int32)) := k_2 x1 (x2 + 1) pw wl wn dk
def p_J_keepImages_2 (k_2 : Int32 → Int32 → Int32 → Int32 → Int32 → (Nat → Int32) → Option (Int32 × Int32 × Int32 × Int32 × (Nat → Int32))) (x1 : Int32) (x2 : Int32) (pw : Int32) (wl : Int32) (wn : Int32) (dk : Nat → Int32) : Option (Int32 × Int32 × Int32 × Int32 × (Nat → Int32)) := if 16 ≤ x2 then (some (1, pw, wl, wn, dk)) else ((p_J_contains x1 x2).bind (fun r_2 => if r_2 = 0 then (p_J_keepImages_34 k_2 x1 x2 pw wl wn dk) else ((p_J_imageOf x1 x2).bind (fun r_4 => (p_D_copyBlock pw wl wn dk r_4 x2).bind (fun r_5 => if r_5.1 = 0 then (some (0, r_5.2.1, r_5.2.2.1, r_5.2.2.2.1, r_5.2.2.2.2)) else (p_J_keepImages_34 k_2 x1 x2 r_5.2.1 r_5.2.2.1 r_5.2.2.2.1 r_5.2.2.2.2))))))
def pl_J_keepImages_2 : Nat → Int32 → Int32 → Int32 → Int32 → Int32 → (Nat → Int32) → Option (Int32 × Int32 × Int32 × Int32 × (Nat → Int32))
  | 0 => fun _ _ _ _ _ _ => none
  | n + 1 => p_J_keepImages_2 (pl_J_keepImages_2 n)
def p_J_keepImages (pw : Int32) (wl : Int32) (wn : Int32) (dk : Nat → Int32) (a1 : Int32) : Option (Int32 × Int32 × Int32 × Int32 × (Nat → Int32)) := pl_J_keepImages_2 1000 a1 0 pw wl wn dk

/- Journal.checkOfImages(I)I -/
def p_J_checkOfImages_16 (dk : Nat → Int32) (k_5 : Int32 → Int32 → Int32 → Option Int32) (k_16 : Int32 → Int32 → Int32 → Int32 → Option Int32) (x1 : Int32) (x2 : Int32) (x3 : Int32) (x4 : Int32) : Option Int32 := if 16 ≤ x4 then (k_5 x1 x2 (x3 + 1)) else ((p_D_word dk x3 x4).bind (fun r_2 => kl ((31 * x2) + r_2 : Int32) (fun v_3 => k_16 x1 v_3 x3 (x4 + 1))))
def pl_J_checkOfImages_16 (dk : Nat → Int32) (k_5 : Int32 → Int32 → Int32 → Option Int32) : Nat → Int32 → Int32 → Int32 → Int32 → Option Int32
  | 0 => fun _ _ _ _ => none
  | n + 1 => p_J_checkOfImages_16 dk k_5 (pl_J_checkOfImages_16 dk k_5 n)
def p_J_checkOfImages_5 (dk : Nat → Int32) (k_5 : Int32 → Int32 → Int32 → Option Int32) (x1 : Int32) (x2 : Int32) (x3 : Int32) : Option Int32 := if (17 + x1) ≤ x3 then (some x2) else (pl_J_checkOfImages_16 dk k_5 1000 x1 x2 x3 0)
def pl_J_checkOfImages_5 (dk : Nat → Int32) : Nat → Int32 → Int32 → Int32 → Option Int32
  | 0 => fun _ _ _ => none
  | n + 1 => p_J_checkOfImages_5 dk (pl_J_checkOfImages_5 dk n)
def p_J_checkOfImages (dk : Nat → Int32) (a1 : Int32) : Option Int32 := pl_J_checkOfImages_5 dk 1000 a1 1 17

/- Journal.writeHead(I)Z -/
def p_J_writeHead (hd : Nat → Int32) (pw : Int32) (wl : Int32) (wn : Int32) (dk : Nat → Int32) (a1 : Int32) : Option (Int32 × (Nat → Int32) × Int32 × Int32 × Int32 × (Nat → Int32)) := (p_I_bitCount a1).bind (fun r_1 => if kx_in 0 16 then (if kx_in 1 16 then (if kx_in 2 16 then ((p_J_checkOfImages dk r_1).bind (fun r_5 => if kx_in 3 16 then ((p_D_writeE pw wl wn dk 16 (upd (upd (upd (upd hd (0 : Int32).toNatClampNeg 6517) (1 : Int32).toNatClampNeg r_1) (2 : Int32).toNatClampNeg a1) (3 : Int32).toNatClampNeg r_5) 16 0).bind (fun r_7 => if r_7.1 &&& 1 = r_7.1 then (some (r_7.1, upd (upd (upd (upd hd (0 : Int32).toNatClampNeg 6517) (1 : Int32).toNatClampNeg r_1) (2 : Int32).toNatClampNeg a1) (3 : Int32).toNatClampNeg r_5, r_7.2.1, r_7.2.2.1, r_7.2.2.2.1, r_7.2.2.2.2)) else none)) else none)) else none) else none) else none)

/- Journal.saveBlocks(I)Z -/
def p_J_saveBlocks_33 (mm : Nat → Int32) (k_2 : Int32 → Int32 → Int32 → Int32 → Int32 → (Nat → Int32) → Option (Int32 × Int32 × Int32 × Int32 × (Nat → Int32))) (x1 : Int32) (x2 : Int32) (pw : Int32) (wl : Int32) (wn : Int32) (dk : Nat → Int32) : Option (Int32 × Int32 × Int32 × Int32 × (Nat → Int32)) := k_2 x1 (x2 + 1) pw wl wn dk
def p_J_saveBlocks_2 (mm : Nat → Int32) (k_2 : Int32 → Int32 → Int32 → Int32 → Int32 → (Nat → Int32) → Option (Int32 × Int32 × Int32 × Int32 × (Nat → Int32))) (x1 : Int32) (x2 : Int32) (pw : Int32) (wl : Int32) (wn : Int32) (dk : Nat → Int32) : Option (Int32 × Int32 × Int32 × Int32 × (Nat → Int32)) := if 16 ≤ x2 then (some (1, pw, wl, wn, dk)) else ((p_J_contains x1 x2).bind (fun r_2 => if r_2 = 0 then (p_J_saveBlocks_33 mm k_2 x1 x2 pw wl wn dk) else ((p_M_save mm pw wl wn dk x2).bind (fun r_4 => if r_4.1 = 0 then (some (0, r_4.2.1, r_4.2.2.1, r_4.2.2.2.1, r_4.2.2.2.2)) else (p_J_saveBlocks_33 mm k_2 x1 x2 r_4.2.1 r_4.2.2.1 r_4.2.2.2.1 r_4.2.2.2.2)))))
def pl_J_saveBlocks_2 (mm : Nat → Int32) : Nat → Int32 → Int32 → Int32 → Int32 → Int32 → (Nat → Int32) → Option (Int32 × Int32 × Int32 × Int32 × (Nat → Int32))
  | 0 => fun _ _ _ _ _ _ => none
  | n + 1 => p_J_saveBlocks_2 mm (pl_J_saveBlocks_2 mm n)
def p_J_saveBlocks (pw : Int32) (wl : Int32) (wn : Int32) (dk : Nat → Int32) (mm : Nat → Int32) (a1 : Int32) : Option (Int32 × Int32 × Int32 × Int32 × (Nat → Int32)) := pl_J_saveBlocks_2 mm 1000 a1 0 pw wl wn dk

/- Journal.clearHead()Z -/
def p_J_clearHead_2 (k_2 : Int32 → (Nat → Int32) → Int32 → Int32 → Int32 → (Nat → Int32) → Option (Int32 × (Nat → Int32) × Int32 × Int32 × Int32 × (Nat → Int32))) (x1 : Int32) (hd : Nat → Int32) (pw : Int32) (wl : Int32) (wn : Int32) (dk : Nat → Int32) : Option (Int32 × (Nat → Int32) × Int32 × Int32 × Int32 × (Nat → Int32)) := if 4 ≤ x1 then ((p_D_writeE pw wl wn dk 16 hd 16 0).bind (fun r_2 => if r_2.1 &&& 1 = r_2.1 then (some (r_2.1, hd, r_2.2.1, r_2.2.2.1, r_2.2.2.2.1, r_2.2.2.2.2)) else none)) else (if kx_in x1 16 then (k_2 (x1 + 1) (upd hd x1.toNatClampNeg 0) pw wl wn dk) else none)
def pl_J_clearHead_2 : Nat → Int32 → (Nat → Int32) → Int32 → Int32 → Int32 → (Nat → Int32) → Option (Int32 × (Nat → Int32) × Int32 × Int32 × Int32 × (Nat → Int32))
  | 0 => fun _ _ _ _ _ _ => none
  | n + 1 => p_J_clearHead_2 (pl_J_clearHead_2 n)
def p_J_clearHead (hd : Nat → Int32) (pw : Int32) (wl : Int32) (wn : Int32) (dk : Nat → Int32) : Option (Int32 × (Nat → Int32) × Int32 × Int32 × Int32 × (Nat → Int32)) := pl_J_clearHead_2 1000 0 hd pw wl wn dk

/- Journal.restoreBlocks(I)Z -/
def p_J_restoreBlocks_34 (k_2 : Int32 → Int32 → Int32 → Int32 → Int32 → (Nat → Int32) → Option (Int32 × Int32 × Int32 × Int32 × (Nat → Int32))) (x1 : Int32) (x2 : Int32) (pw : Int32) (wl : Int32) (wn : Int32) (dk : Nat → Int32) : Option (Int32 × Int32 × Int32 × Int32 × (Nat → Int32)) := k_2 x1 (x2 + 1) pw wl wn dk
def p_J_restoreBlocks_2 (k_2 : Int32 → Int32 → Int32 → Int32 → Int32 → (Nat → Int32) → Option (Int32 × Int32 × Int32 × Int32 × (Nat → Int32))) (x1 : Int32) (x2 : Int32) (pw : Int32) (wl : Int32) (wn : Int32) (dk : Nat → Int32) : Option (Int32 × Int32 × Int32 × Int32 × (Nat → Int32)) := if 16 ≤ x2 then (some (1, pw, wl, wn, dk)) else ((p_J_contains x1 x2).bind (fun r_2 => if r_2 = 0 then (p_J_restoreBlocks_34 k_2 x1 x2 pw wl wn dk) else ((p_J_imageOf x1 x2).bind (fun r_4 => (p_D_copyBlock pw wl wn dk x2 r_4).bind (fun r_5 => if r_5.1 = 0 then (some (0, r_5.2.1, r_5.2.2.1, r_5.2.2.2.1, r_5.2.2.2.2)) else (p_J_restoreBlocks_34 k_2 x1 x2 r_5.2.1 r_5.2.2.1 r_5.2.2.2.1 r_5.2.2.2.2))))))
def pl_J_restoreBlocks_2 : Nat → Int32 → Int32 → Int32 → Int32 → Int32 → (Nat → Int32) → Option (Int32 × Int32 × Int32 × Int32 × (Nat → Int32))
  | 0 => fun _ _ _ _ _ _ => none
  | n + 1 => p_J_restoreBlocks_2 (pl_J_restoreBlocks_2 n)
def p_J_restoreBlocks (pw : Int32) (wl : Int32) (wn : Int32) (dk : Nat → Int32) (a1 : Int32) : Option (Int32 × Int32 × Int32 × Int32 × (Nat → Int32)) := pl_J_restoreBlocks_2 1000 a1 0 pw wl wn dk

/- Journal.blocksToUndo()I -/
def p_J_blocksToUndo_120 (dk : Nat → Int32) (z0 : Int32) : Option Int32 := some z0
def p_J_blocksToUndo_70 (dk : Nat → Int32) (k_70 : Int32 → Int32 → Int32 → Option Int32) (x1 : Int32) (x2 : Int32) (x3 : Int32) : Option Int32 := if 16 ≤ x3 then ((p_D_word dk 16 3).bind (fun r_2 => (p_J_checkOfImages dk x1).bind (fun r_3 => if r_2 = r_3 then (p_J_blocksToUndo_120 dk x2) else (p_J_blocksToUndo_120 dk 0)))) else ((p_D_word dk 16 x3).bind (fun r_5 => if r_5 = 0 then (k_70 x1 x2 (x3 + 1)) else (some 0)))
def pl_J_blocksToUndo_70 (dk : Nat → Int32) : Nat → Int32 → Int32 → Int32 → Option Int32
  | 0 => fun _ _ _ => none
  | n + 1 => p_J_blocksToUndo_70 dk (pl_J_blocksToUndo_70 dk n)
def p_J_blocksToUndo_66 (dk : Nat → Int32) : Option Int32 := some 0
def p_J_blocksToUndo_49 (dk : Nat → Int32) : Option Int32 := some 0
def p_J_blocksToUndo (dk : Nat → Int32) : Option Int32 := (p_D_word dk 16 1).bind (fun r_7 => (p_D_word dk 16 2).bind (fun r_8 => (p_D_word dk 16 0).bind (fun r_9 => if r_9 = 6517 then (if r_7 < 1 then (p_J_blocksToUndo_49 dk) else (if r_7 ≤ 16 then (if ((r_8.toUInt32 >>> ((16 : Int32).toUInt32 &&& Int32.toUInt32 31)).toInt32) = 0 then ((p_I_bitCount r_8).bind (fun r_14 => if r_14 = r_7 then (pl_J_blocksToUndo_70 dk 1000 r_7 r_8 4) else (p_J_blocksToUndo_66 dk))) else (p_J_blocksToUndo_66 dk)) else (p_J_blocksToUndo_49 dk))) else (p_J_blocksToUndo_49 dk))))

/- Journal.carryOut()Z -/
def p_J_carryOut_47 (mm : Nat → Int32) (z0 : Int32) (hd : Nat → Int32) (pw : Int32) (wl : Int32) (wn : Int32) (dk : Nat → Int32) : Option (Int32 × (Nat → Int32) × Int32 × Int32 × Int32 × (Nat → Int32)) := if z0 &&& 1 = z0 then (some (z0, hd, pw, wl, wn, dk)) else none
def p_J_carryOut_46 (mm : Nat → Int32) (hd : Nat → Int32) (pw : Int32) (wl : Int32) (wn : Int32) (dk : Nat → Int32) : Option (Int32 × (Nat → Int32) × Int32 × Int32 × Int32 × (Nat → Int32)) := p_J_carryOut_47 mm 0 hd pw wl wn dk
def p_J_carryOut (hd : Nat → Int32) (pw : Int32) (wl : Int32) (wn : Int32) (dk : Nat → Int32) (mm : Nat → Int32) : Option (Int32 × (Nat → Int32) × Int32 × Int32 × Int32 × (Nat → Int32)) := (p_J_changedBlocks dk mm).bind (fun r_2 => if r_2 = 0 then (some (1, hd, pw, wl, wn, dk)) else ((p_J_keepImages pw wl wn dk r_2).bind (fun r_4 => if r_4.1 = 0 then (p_J_carryOut_46 mm hd r_4.2.1 r_4.2.2.1 r_4.2.2.2.1 r_4.2.2.2.2) else ((p_J_writeHead hd r_4.2.1 r_4.2.2.1 r_4.2.2.2.1 r_4.2.2.2.2 r_2).bind (fun r_6 => if r_6.1 = 0 then (p_J_carryOut_46 mm r_6.2.1 r_6.2.2.1 r_6.2.2.2.1 r_6.2.2.2.2.1 r_6.2.2.2.2.2) else ((p_J_saveBlocks r_6.2.2.1 r_6.2.2.2.1 r_6.2.2.2.2.1 r_6.2.2.2.2.2 mm r_2).bind (fun r_8 => if r_8.1 = 0 then (p_J_carryOut_46 mm r_6.2.1 r_8.2.1 r_8.2.2.1 r_8.2.2.2.1 r_8.2.2.2.2) else ((p_J_clearHead r_6.2.1 r_8.2.1 r_8.2.2.1 r_8.2.2.2.1 r_8.2.2.2.2).bind (fun r_10 => if r_10.1 = 0 then (p_J_carryOut_46 mm r_10.2.1 r_10.2.2.1 r_10.2.2.2.1 r_10.2.2.2.2.1 r_10.2.2.2.2.2) else (p_J_carryOut_47 mm 1 r_10.2.1 r_10.2.2.1 r_10.2.2.2.1 r_10.2.2.2.2.1 r_10.2.2.2.2.2))))))))))

/- Journal.undo()Z -/
def p_J_undo_31 (z0 : Int32) (hd : Nat → Int32) (pw : Int32) (wl : Int32) (wn : Int32) (dk : Nat → Int32) : Option (Int32 × (Nat → Int32) × Int32 × Int32 × Int32 × (Nat → Int32)) := if z0 &&& 1 = z0 then (some (z0, hd, pw, wl, wn, dk)) else none
def p_J_undo_30 (hd : Nat → Int32) (pw : Int32) (wl : Int32) (wn : Int32) (dk : Nat → Int32) : Option (Int32 × (Nat → Int32) × Int32 × Int32 × Int32 × (Nat → Int32)) := p_J_undo_31 0 hd pw wl wn dk
def p_J_undo (hd : Nat → Int32) (pw : Int32) (wl : Int32) (wn : Int32) (dk : Nat → Int32) : Option (Int32 × (Nat → Int32) × Int32 × Int32 × Int32 × (Nat → Int32)) := (p_J_blocksToUndo dk).bind (fun r_2 => if r_2 = 0 then (some (1, hd, pw, wl, wn, dk)) else ((p_J_restoreBlocks pw wl wn dk r_2).bind (fun r_4 => if r_4.1 = 0 then (p_J_undo_30 hd r_4.2.1 r_4.2.2.1 r_4.2.2.2.1 r_4.2.2.2.2) else ((p_J_clearHead hd r_4.2.1 r_4.2.2.1 r_4.2.2.2.1 r_4.2.2.2.2).bind (fun r_6 => if r_6.1 = 0 then (p_J_undo_30 r_6.2.1 r_6.2.2.1 r_6.2.2.2.1 r_6.2.2.2.2.1 r_6.2.2.2.2.2) else (p_J_undo_31 1 r_6.2.1 r_6.2.2.1 r_6.2.2.2.1 r_6.2.2.2.2.1 r_6.2.2.2.2.2))))))

/- Scan.isOpen()Z -/
def p_S_isOpen (so : Int32) : Option Int32 := if so &&& 1 = so then (some so) else none

/- Scan.isVoid()Z -/
def p_S_isVoid (sv : Int32) : Option Int32 := if sv &&& 1 = sv then (some sv) else none

/- Scan.start(IIII)V -/
def p_S_start (so : Int32) (sv : Int32) (sb : Int32) (sc : Int32) (sl : Int32) (sh : Int32) (sk : Int64) (sr : Int32) (a1 : Int32) (a2 : Int32) (a3 : Int32) (a4 : Int32) : Option (Int32 × Int32 × Int32 × Int32 × Int32 × Int32 × Int64 × Int32) := some (1, 0, a1, a2, a3, a4, (-2147483649), (-1))

/- Scan.end()V -/
def p_S_end (so : Int32) : Option Int32 := some 0

/- Scan.tableChanged(I)V -/
def p_S_tableChanged_13 (sb : Int32) (sv : Int32) : Option Int32 := some sv
def p_S_tableChanged (sv : Int32) (sb : Int32) (a1 : Int32) : Option Int32 := if a1 = sb then (p_S_tableChanged_13 sb 1) else (p_S_tableChanged_13 sb sv)

/- Scan.move(LJournaledTables$Memory;)Z -/
def p_S_move (sb : Int32) (sc : Int32) (sl : Int32) (sh : Int32) (sk : Int64) (sr : Int32) (mm : Nat → Int32) : Option (Int32 × Int64 × Int32) := (p_M_leastRow mm sb sc sl sh sk).bind (fun r_1 => if r_1 = (-1) then (some (0, sk, r_1)) else ((p_M_word mm r_1).bind (fun r_3 => some (1, r_3.toInt64, r_1))))

/- Scan.wordAt(LJournaledTables$Memory;I)I -/
def p_S_wordAt_20 (sb : Int32) (sr : Int32) (mm : Nat → Int32) : Option Int32 := some 0
def p_S_wordAt (sb : Int32) (sr : Int32) (mm : Nat → Int32) (a2 : Int32) : Option Int32 := if sr = (-1) then (p_S_wordAt_20 sb sr mm) else ((p_M_hasCol mm sb a2).bind (fun r_2 => if r_2 = 0 then (p_S_wordAt_20 sb sr mm) else ((p_M_word mm (sr + a2)).bind (fun r_4 => some r_4))))

/- X.startAnew()V -/
def p_X_startAnew_18 (dk : Nat → Int32) (k_18 : Int32 → Int32 → (Nat → Int32) → (Nat → SCT) → Option (Int32 × (Nat → Int32) × (Nat → SCT))) (x1 : Int32) (tx : Int32) (mm : Nat → Int32) (sc4 : Nat → SCT) : Option (Int32 × (Nat → Int32) × (Nat → SCT)) := if 4 ≤ x1 then (some (tx, mm, sc4)) else (if kx_in x1 4 then ((p_S_end ((sc4 x1.toNatClampNeg).1)).bind (fun r_3 => k_18 (x1 + 1) tx mm (va_up sc4 x1.toNatClampNeg (r_3, (sc4 x1.toNatClampNeg).2.1, (sc4 x1.toNatClampNeg).2.2.1, (sc4 x1.toNatClampNeg).2.2.2.1, (sc4 x1.toNatClampNeg).2.2.2.2.1, (sc4 x1.toNatClampNeg).2.2.2.2.2.1, (sc4 x1.toNatClampNeg).2.2.2.2.2.2.1, (sc4 x1.toNatClampNeg).2.2.2.2.2.2.2)))) else none)
def pl_X_startAnew_18 (dk : Nat → Int32) : Nat → Int32 → Int32 → (Nat → Int32) → (Nat → SCT) → Option (Int32 × (Nat → Int32) × (Nat → SCT))
  | 0 => fun _ _ _ _ => none
  | n + 1 => p_X_startAnew_18 dk (pl_X_startAnew_18 dk n)
def p_X_startAnew (tx : Int32) (dk : Nat → Int32) (mm : Nat → Int32) (sc4 : Nat → SCT) : Option (Int32 × (Nat → Int32) × (Nat → SCT)) := (p_M_load mm dk).bind (fun r_4 => pl_X_startAnew_18 dk 1000 0 0 r_4 sc4)

/- X.refusalOutsideTransaction()I -/
def p_X_refusalOutsideTransaction_25 (tx : Int32) (pw : Int32) (z0 : Int32) : Option Int32 := some z0
def p_X_refusalOutsideTransaction (tx : Int32) (pw : Int32) : Option Int32 := (p_D_powered pw).bind (fun r_1 => if r_1 = 0 then (some (-1)) else (if tx = 0 then (p_X_refusalOutsideTransaction_25 tx pw (-2)) else (p_X_refusalOutsideTransaction_25 tx pw 0)))

/- X.refusalOfChange(I)I -/
def p_X_refusalOfChange_28 (tx : Int32) (pw : Int32) (mm : Nat → Int32) (z0 : Int32) : Option Int32 := some z0
def p_X_refusalOfChange (tx : Int32) (pw : Int32) (mm : Nat → Int32) (a1 : Int32) : Option Int32 := (p_X_refusalOutsideTransaction tx pw).bind (fun r_1 => if r_1 = 0 then ((p_M_hasTable mm a1).bind (fun r_3 => if r_3 = 0 then (p_X_refusalOfChange_28 tx pw mm (-5)) else (p_X_refusalOfChange_28 tx pw mm 0))) else (some r_1))

/- X.voidScansOf(I)V -/
def p_X_voidScansOf_2 (k_2 : Int32 → Int32 → (Nat → SCT) → Option ((Nat → SCT))) (x1 : Int32) (x2 : Int32) (sc4 : Nat → SCT) : Option ((Nat → SCT)) := if 4 ≤ x2 then (some sc4) else (if kx_in x2 4 then ((p_S_tableChanged ((sc4 x2.toNatClampNeg).2.1) ((sc4 x2.toNatClampNeg).2.2.1) x1).bind (fun r_3 => k_2 x1 (x2 + 1) (va_up sc4 x2.toNatClampNeg ((sc4 x2.toNatClampNeg).1, r_3, (sc4 x2.toNatClampNeg).2.2.1, (sc4 x2.toNatClampNeg).2.2.2.1, (sc4 x2.toNatClampNeg).2.2.2.2.1, (sc4 x2.toNatClampNeg).2.2.2.2.2.1, (sc4 x2.toNatClampNeg).2.2.2.2.2.2.1, (sc4 x2.toNatClampNeg).2.2.2.2.2.2.2)))) else none)
def pl_X_voidScansOf_2 : Nat → Int32 → Int32 → (Nat → SCT) → Option ((Nat → SCT))
  | 0 => fun _ _ _ => none
  | n + 1 => p_X_voidScansOf_2 (pl_X_voidScansOf_2 n)
def p_X_voidScansOf (sc4 : Nat → SCT) (a1 : Int32) : Option ((Nat → SCT)) := pl_X_voidScansOf_2 1000 a1 0 sc4

/- X.scanOf(I)LJournaledTables$Scan; -/
def p_X_scanOf (sc4 : Nat → SCT) (a1 : Int32) : Option (Option Nat) := if a1 < 0 then (some none) else (if a1 < 4 then (if kx_in a1 4 then ((p_S_isOpen ((sc4 a1.toNatClampNeg).1)).bind (fun r_4 => if r_4 = 0 then (some none) else (if kx_in a1 4 then (some (some a1.toNatClampNeg)) else none))) else none) else (some none))

/- X.usableScan(I)LJournaledTables$Scan; -/
def p_X_usableScan (pw : Int32) (sc4 : Nat → SCT) (a1 : Int32) : Option (Option Nat) := (p_D_powered pw).bind (fun r_1 => if r_1 = 0 then (some none) else ((p_X_scanOf sc4 a1).bind (fun r_3 => kq r_3 (some none) (fun kr_3 => if kr_3 < 4 then ((p_S_isVoid ((sc4 kr_3).2.1)).bind (fun r_5 => if r_5 = 0 then (some (some kr_3)) else (some none))) else none))))

/- X.format()I -/
def p_X_format (tx : Int32) (pw : Int32) (wl : Int32) (dk : Nat → Int32) (mm : Nat → Int32) (sc4 : Nat → SCT) : Option (Int32 × Int32 × Int32 × Int32 × (Nat → Int32) × (Nat → Int32) × (Nat → SCT)) := (p_D_wipe pw wl dk).bind (fun r_1 => (p_X_startAnew tx r_1.2.2 mm sc4).bind (fun r_2 => some (0, r_2.1, r_1.1, r_1.2.1, r_1.2.2, r_2.2.1, r_2.2.2)))

/- X.createTable(I)I -/
def p_X_createTable_23 (tx : Int32) (pw : Int32) (mm : Nat → Int32) : Option (Int32 × (Nat → Int32)) := some ((-4), mm)
def p_X_createTable (tx : Int32) (pw : Int32) (mm : Nat → Int32) (a1 : Int32) : Option (Int32 × (Nat → Int32)) := (p_D_powered pw).bind (fun r_1 => if r_1 = 0 then (some ((-1), mm)) else (if a1 < 2 then (p_X_createTable_23 tx pw mm) else (if a1 ≤ 6 then (if tx = 0 then (some ((-2), mm)) else ((p_M_freeTable mm).bind (fun r_6 => if r_6 = (-1) then (some ((-8), mm)) else ((p_M_addTable mm r_6 a1).bind (fun r_8 => some (r_6, r_8)))))) else (p_X_createTable_23 tx pw mm))))

/- X.dropTable(I)I -/
def p_X_dropTable (tx : Int32) (pw : Int32) (mm : Nat → Int32) (sc4 : Nat → SCT) (a1 : Int32) : Option (Int32 × (Nat → Int32) × (Nat → SCT)) := (p_X_refusalOfChange tx pw mm a1).bind (fun r_1 => if r_1 = 0 then ((p_M_removeTable mm a1).bind (fun r_3 => (p_X_voidScansOf sc4 a1).bind (fun r_4 => some (0, r_3, r_4)))) else (some (r_1, mm, sc4)))

/- X.begin()I -/
def p_X_begin (tx : Int32) (pw : Int32) : Option (Int32 × Int32) := (p_D_powered pw).bind (fun r_1 => if r_1 = 0 then (some ((-1), tx)) else (if tx = 0 then (some (0, 1)) else (some ((-3), tx))))

/- X.commit()I -/
def p_X_commit (tx : Int32) (pw : Int32) (wl : Int32) (wn : Int32) (dk : Nat → Int32) (mm : Nat → Int32) (hd : Nat → Int32) : Option (Int32 × Int32 × Int32 × Int32 × Int32 × (Nat → Int32) × (Nat → Int32)) := (p_X_refusalOutsideTransaction tx pw).bind (fun r_1 => if r_1 = 0 then ((p_J_carryOut hd pw wl wn dk mm).bind (fun r_3 => if r_3.1 = 0 then (some ((-1), tx, r_3.2.2.1, r_3.2.2.2.1, r_3.2.2.2.2.1, r_3.2.2.2.2.2, r_3.2.1)) else (some (0, 0, r_3.2.2.1, r_3.2.2.2.1, r_3.2.2.2.2.1, r_3.2.2.2.2.2, r_3.2.1)))) else (some (r_1, tx, pw, wl, wn, dk, hd)))

/- X.rollback()I -/
def p_X_rollback_29 (pw : Int32) (dk : Nat → Int32) (k_29 : Int32 → Int32 → (Nat → Int32) → (Nat → SCT) → Option (Int32 × Int32 × (Nat → Int32) × (Nat → SCT))) (x2 : Int32) (tx : Int32) (mm : Nat → Int32) (sc4 : Nat → SCT) : Option (Int32 × Int32 × (Nat → Int32) × (Nat → SCT)) := if 5 ≤ x2 then (some (0, tx, mm, sc4)) else ((p_X_voidScansOf sc4 x2).bind (fun r_2 => k_29 (x2 + 1) tx mm r_2))
def pl_X_rollback_29 (pw : Int32) (dk : Nat → Int32) : Nat → Int32 → Int32 → (Nat → Int32) → (Nat → SCT) → Option (Int32 × Int32 × (Nat → Int32) × (Nat → SCT))
  | 0 => fun _ _ _ _ => none
  | n + 1 => p_X_rollback_29 pw dk (pl_X_rollback_29 pw dk n)
def p_X_rollback (tx : Int32) (pw : Int32) (dk : Nat → Int32) (mm : Nat → Int32) (sc4 : Nat → SCT) : Option (Int32 × Int32 × (Nat → Int32) × (Nat → SCT)) := (p_X_refusalOutsideTransaction tx pw).bind (fun r_3 => if r_3 = 0 then ((p_M_load mm dk).bind (fun r_5 => pl_X_rollback_29 pw dk 1000 0 0 r_5 sc4)) else (some (r_3, tx, mm, sc4)))

/- X.stage(II)I -/
def p_X_stage_22 (pw : Int32) (sg : Nat → Int32) : Option (Int32 × (Nat → Int32)) := some ((-4), sg)
def p_X_stage (pw : Int32) (sg : Nat → Int32) (a1 : Int32) (a2 : Int32) : Option (Int32 × (Nat → Int32)) := (p_D_powered pw).bind (fun r_1 => if r_1 = 0 then (some ((-1), sg)) else (if a1 < 0 then (p_X_stage_22 pw sg) else (if a1 < 6 then (if kx_in a1 6 then (some (0, upd sg a1.toNatClampNeg a2)) else none) else (p_X_stage_22 pw sg))))

/- X.insert(I)I -/
def p_X_insert (tx : Int32) (pw : Int32) (mm : Nat → Int32) (sg : Nat → Int32) (sc4 : Nat → SCT) (a1 : Int32) : Option (Int32 × (Nat → Int32) × (Nat → SCT)) := (p_X_refusalOfChange tx pw mm a1).bind (fun r_1 => if r_1 = 0 then (if kx_in 0 6 then ((p_M_rowOf mm a1 (sg (0 : Int32).toNatClampNeg)).bind (fun r_4 => if r_4 = (-1) then ((p_M_addRow mm sg a1).bind (fun r_6 => if r_6.1 = 0 then (some ((-8), r_6.2, sc4)) else ((p_X_voidScansOf sc4 a1).bind (fun r_8 => some (0, r_6.2, r_8))))) else (some ((-7), mm, sc4)))) else none) else (some (r_1, mm, sc4)))

/- X.deleteKey(II)I -/
def p_X_deleteKey (tx : Int32) (pw : Int32) (mm : Nat → Int32) (sc4 : Nat → SCT) (a1 : Int32) (a2 : Int32) : Option (Int32 × (Nat → Int32) × (Nat → SCT)) := (p_X_refusalOfChange tx pw mm a1).bind (fun r_1 => if r_1 = 0 then ((p_M_rowOf mm a1 a2).bind (fun r_3 => if r_3 = (-1) then (some ((-6), mm, sc4)) else ((p_M_removeRow mm a1 r_3).bind (fun r_5 => (p_X_voidScansOf sc4 a1).bind (fun r_6 => some (0, r_5, r_6)))))) else (some (r_1, mm, sc4)))

/- X.updateCol(IIII)I -/
def p_X_updateCol_32 (tx : Int32) (pw : Int32) (mm : Nat → Int32) (sc4 : Nat → SCT) : Option (Int32 × (Nat → Int32) × (Nat → SCT)) := some ((-4), mm, sc4)
def p_X_updateCol (tx : Int32) (pw : Int32) (mm : Nat → Int32) (sc4 : Nat → SCT) (a1 : Int32) (a2 : Int32) (a3 : Int32) (a4 : Int32) : Option (Int32 × (Nat → Int32) × (Nat → SCT)) := (p_X_refusalOfChange tx pw mm a1).bind (fun r_1 => if r_1 = 0 then (if a3 < 1 then (p_X_updateCol_32 tx pw mm sc4) else ((p_M_width mm a1).bind (fun r_4 => if a3 < r_4 then ((p_M_rowOf mm a1 a2).bind (fun r_6 => if r_6 = (-1) then (some ((-6), mm, sc4)) else ((p_M_setWord mm (r_6 + a3) a4).bind (fun r_8 => (p_X_voidScansOf sc4 a1).bind (fun r_9 => some (0, r_8, r_9)))))) else (p_X_updateCol_32 tx pw mm sc4)))) else (some (r_1, mm, sc4)))

/- X.lookup(III)I -/
def p_X_lookup_56 (pw : Int32) (mm : Nat → Int32) (z0 : Int32) : Option Int32 := some z0
def p_X_lookup_22 (pw : Int32) (mm : Nat → Int32) : Option Int32 := some 0
def p_X_lookup (pw : Int32) (mm : Nat → Int32) (a1 : Int32) (a2 : Int32) (a3 : Int32) : Option Int32 := (p_D_powered pw).bind (fun r_1 => if r_1 = 0 then (p_X_lookup_22 pw mm) else ((p_M_hasCol mm a1 a3).bind (fun r_3 => if r_3 = 0 then (p_X_lookup_22 pw mm) else ((p_M_rowOf mm a1 a2).bind (fun r_5 => if r_5 = (-1) then (p_X_lookup_56 pw mm 0) else ((p_M_word mm (r_5 + a3)).bind (fun r_7 => p_X_lookup_56 pw mm r_7)))))))

/- X.has(II)Z -/
def p_X_has_39 (pw : Int32) (mm : Nat → Int32) (z0 : Int32) : Option Int32 := if z0 &&& 1 = z0 then (some z0) else none
def p_X_has_38 (pw : Int32) (mm : Nat → Int32) : Option Int32 := p_X_has_39 pw mm 0
def p_X_has (pw : Int32) (mm : Nat → Int32) (a1 : Int32) (a2 : Int32) : Option Int32 := (p_D_powered pw).bind (fun r_2 => if r_2 = 0 then (p_X_has_38 pw mm) else ((p_M_hasTable mm a1).bind (fun r_4 => if r_4 = 0 then (p_X_has_38 pw mm) else ((p_M_rowOf mm a1 a2).bind (fun r_6 => if r_6 = (-1) then (p_X_has_38 pw mm) else (p_X_has_39 pw mm 1))))))

/- X.count(I)I -/
def p_X_count_36 (pw : Int32) (mm : Nat → Int32) (z0 : Int32) : Option Int32 := some z0
def p_X_count (pw : Int32) (mm : Nat → Int32) (a1 : Int32) : Option Int32 := (p_D_powered pw).bind (fun r_1 => if r_1 = 0 then (some (-1)) else ((p_M_hasTable mm a1).bind (fun r_3 => if r_3 = 0 then (p_X_count_36 pw mm (-5)) else ((p_M_rowsOf mm a1).bind (fun r_5 => p_X_count_36 pw mm r_5)))))

/- X.openScan(IIII)I -/
def p_X_openScan_44 (pw : Int32) (mm : Nat → Int32) (k_44 : Int32 → Int32 → Int32 → Int32 → Int32 → (Nat → SCT) → Option (Int32 × (Nat → SCT))) (x1 : Int32) (x2 : Int32) (x3 : Int32) (x4 : Int32) (x5 : Int32) (sc4 : Nat → SCT) : Option (Int32 × (Nat → SCT)) := if 4 ≤ x5 then (some ((-8), sc4)) else ((p_X_scanOf sc4 x5).bind (fun r_2 => kq r_2 (if kx_in x5 4 then ((p_S_start ((sc4 x5.toNatClampNeg).1) ((sc4 x5.toNatClampNeg).2.1) ((sc4 x5.toNatClampNeg).2.2.1) ((sc4 x5.toNatClampNeg).2.2.2.1) ((sc4 x5.toNatClampNeg).2.2.2.2.1) ((sc4 x5.toNatClampNeg).2.2.2.2.2.1) ((sc4 x5.toNatClampNeg).2.2.2.2.2.2.1) ((sc4 x5.toNatClampNeg).2.2.2.2.2.2.2) x1 x2 x3 x4).bind (fun r_5 => some (x5, va_up sc4 x5.toNatClampNeg (r_5.1, r_5.2.1, r_5.2.2.1, r_5.2.2.2.1, r_5.2.2.2.2.1, r_5.2.2.2.2.2.1, r_5.2.2.2.2.2.2.1, r_5.2.2.2.2.2.2.2)))) else none) (fun kr_2 => if kr_2 < 4 then (k_44 x1 x2 x3 x4 (x5 + 1) sc4) else none)))
def pl_X_openScan_44 (pw : Int32) (mm : Nat → Int32) : Nat → Int32 → Int32 → Int32 → Int32 → Int32 → (Nat → SCT) → Option (Int32 × (Nat → SCT))
  | 0 => fun _ _ _ _ _ _ => none
  | n + 1 => p_X_openScan_44 pw mm (pl_X_openScan_44 pw mm n)
def p_X_openScan (pw : Int32) (mm : Nat → Int32) (sc4 : Nat → SCT) (a1 : Int32) (a2 : Int32) (a3 : Int32) (a4 : Int32) : Option (Int32 × (Nat → SCT)) := (p_D_powered pw).bind (fun r_6 => if r_6 = 0 then (some ((-1), sc4)) else ((p_M_hasTable mm a1).bind (fun r_8 => if r_8 = 0 then (some ((-5), sc4)) else ((p_M_hasCol mm a1 a2).bind (fun r_10 => if r_10 = 0 then (some ((-4), sc4)) else (pl_X_openScan_44 pw mm 1000 a1 a2 a3 a4 0 sc4))))))

/- X.next(I)Z -/
def p_X_next_26 (pw : Int32) (mm : Nat → Int32) (z0 : Int32) (sc4 : Nat → SCT) : Option (Int32 × (Nat → SCT)) := if z0 &&& 1 = z0 then (some (z0, sc4)) else none
def p_X_next_25 (pw : Int32) (mm : Nat → Int32) (sc4 : Nat → SCT) : Option (Int32 × (Nat → SCT)) := p_X_next_26 pw mm 0 sc4
def p_X_next (pw : Int32) (mm : Nat → Int32) (sc4 : Nat → SCT) (a1 : Int32) : Option (Int32 × (Nat → SCT)) := (p_X_usableScan pw sc4 a1).bind (fun r_2 => kq r_2 (p_X_next_25 pw mm sc4) (fun kr_2 => if kr_2 < 4 then ((p_S_move ((sc4 kr_2).2.2.1) ((sc4 kr_2).2.2.2.1) ((sc4 kr_2).2.2.2.2.1) ((sc4 kr_2).2.2.2.2.2.1) ((sc4 kr_2).2.2.2.2.2.2.1) ((sc4 kr_2).2.2.2.2.2.2.2) mm).bind (fun r_4 => if r_4.1 = 0 then (p_X_next_25 pw mm (va_up sc4 kr_2 ((sc4 kr_2).1, (sc4 kr_2).2.1, (sc4 kr_2).2.2.1, (sc4 kr_2).2.2.2.1, (sc4 kr_2).2.2.2.2.1, (sc4 kr_2).2.2.2.2.2.1, r_4.2.1, r_4.2.2))) else (p_X_next_26 pw mm 1 (va_up sc4 kr_2 ((sc4 kr_2).1, (sc4 kr_2).2.1, (sc4 kr_2).2.2.1, (sc4 kr_2).2.2.2.1, (sc4 kr_2).2.2.2.2.1, (sc4 kr_2).2.2.2.2.2.1, r_4.2.1, r_4.2.2))))) else none))

/- X.col(II)I -/
def p_X_col_23 (pw : Int32) (mm : Nat → Int32) (sc4 : Nat → SCT) (z0 : Int32) : Option Int32 := some z0
def p_X_col (pw : Int32) (mm : Nat → Int32) (sc4 : Nat → SCT) (a1 : Int32) (a2 : Int32) : Option Int32 := (p_X_usableScan pw sc4 a1).bind (fun r_1 => kq r_1 (p_X_col_23 pw mm sc4 0) (fun kr_1 => if kr_1 < 4 then ((p_S_wordAt ((sc4 kr_1).2.2.1) ((sc4 kr_1).2.2.2.2.2.2.2) mm a2).bind (fun r_3 => p_X_col_23 pw mm sc4 r_3)) else none))

/- X.closeScan(I)I -/
def p_X_closeScan (pw : Int32) (sc4 : Nat → SCT) (a1 : Int32) : Option (Int32 × (Nat → SCT)) := (p_D_powered pw).bind (fun r_1 => if r_1 = 0 then (some ((-1), sc4)) else ((p_X_scanOf sc4 a1).bind (fun r_3 => kq r_3 (some ((-9), sc4)) (fun kr_3 => if kr_3 < 4 then ((p_S_end ((sc4 kr_3).1)).bind (fun r_5 => some (0, va_up sc4 kr_3 (r_5, (sc4 kr_3).2.1, (sc4 kr_3).2.2.1, (sc4 kr_3).2.2.2.1, (sc4 kr_3).2.2.2.2.1, (sc4 kr_3).2.2.2.2.2.1, (sc4 kr_3).2.2.2.2.2.2.1, (sc4 kr_3).2.2.2.2.2.2.2)))) else none))))

/- X.crashAfter(I)I -/
def p_X_crashAfter (wl : Int32) (a1 : Int32) : Option (Int32 × Int32) := if 0 ≤ a1 then ((p_D_failAfter wl a1).bind (fun r_2 => some (0, r_2))) else (some ((-4), wl))

/- X.recover()I -/
def p_X_recover (tx : Int32) (pw : Int32) (wl : Int32) (wn : Int32) (dk : Nat → Int32) (mm : Nat → Int32) (hd : Nat → Int32) (sc4 : Nat → SCT) : Option (Int32 × Int32 × Int32 × Int32 × Int32 × (Nat → Int32) × (Nat → Int32) × (Nat → Int32) × (Nat → SCT)) := (p_D_powerOn pw).bind (fun r_1 => (p_J_undo hd r_1 wl wn dk).bind (fun r_2 => if r_2.1 = 0 then (some ((-1), tx, r_2.2.2.1, r_2.2.2.2.1, r_2.2.2.2.2.1, r_2.2.2.2.2.2, mm, r_2.2.1, sc4)) else ((p_X_startAnew tx r_2.2.2.2.2.2 mm sc4).bind (fun r_4 => some (0, r_4.1, r_2.2.2.1, r_2.2.2.2.1, r_2.2.2.2.2.1, r_2.2.2.2.2.2, r_4.2.1, r_2.2.1, r_4.2.2)))))

/- X.peek(II)I -/
def p_X_peek_20 (dk : Nat → Int32) : Option Int32 := some (-4)
def p_X_peek (dk : Nat → Int32) (a1 : Int32) (a2 : Int32) : Option Int32 := if a1 < 0 then (p_X_peek_20 dk) else (if 33 ≤ a1 then (p_X_peek_20 dk) else (if a2 < 0 then (p_X_peek_20 dk) else (if a2 < 16 then ((p_D_word dk a1 a2).bind (fun r_5 => some r_5)) else (p_X_peek_20 dk))))

/- X.writes()I -/
def p_X_writes (wn : Int32) : Option Int32 := (p_D_writesDone wn).bind (fun r_1 => some r_1)

/- Model.put(I)Z -/
def p_R_put_45 (wk : Nat → Int32) (k_45 : Int32 → Int32 → Int32 → Int32 → Int32 → (Nat → Int32) → Option (Int32 × Int32 × Int32 × Int32 × (Nat → Int32))) (x1 : Int32) (x2 : Int32) (of : Int32) (cr : Int32) (wn : Int32) (dk : Nat → Int32) : Option (Int32 × Int32 × Int32 × Int32 × (Nat → Int32)) := if 16 ≤ x2 then (some (1, of, cr, wn + 1, dk)) else (if kx_in x2 16 then (if kx_in ((16 * x1) + x2) 528 then (k_45 x1 (x2 + 1) of cr wn (upd dk ((16 * x1) + x2).toNatClampNeg (wk x2.toNatClampNeg))) else none) else none)
def pl_R_put_45 (wk : Nat → Int32) : Nat → Int32 → Int32 → Int32 → Int32 → Int32 → (Nat → Int32) → Option (Int32 × Int32 × Int32 × Int32 × (Nat → Int32))
  | 0 => fun _ _ _ _ _ _ => none
  | n + 1 => p_R_put_45 wk (pl_R_put_45 wk n)
def p_R_put_40 (wk : Nat → Int32) (x1 : Int32) (z0 : Int32) (of : Int32) (cr : Int32) (wn : Int32) (dk : Nat → Int32) : Option (Int32 × Int32 × Int32 × Int32 × (Nat → Int32)) := pl_R_put_45 wk 1000 x1 0 of z0 wn dk
def p_R_put (of : Int32) (cr : Int32) (wn : Int32) (dk : Nat → Int32) (wk : Nat → Int32) (a1 : Int32) : Option (Int32 × Int32 × Int32 × Int32 × (Nat → Int32)) := if cr = 0 then (some (0, 1, (-1), wn, dk)) else (if cr ≤ 0 then (p_R_put_40 wk a1 cr of cr wn dk) else (p_R_put_40 wk a1 (cr - 1) of cr wn dk))

/- Model.putFromDisk(II)Z -/
def p_R_putFromDisk_2 (k_2 : Int32 → Int32 → Int32 → Int32 → Int32 → Int32 → (Nat → Int32) → (Nat → Int32) → Option (Int32 × Int32 × Int32 × Int32 × (Nat → Int32) × (Nat → Int32))) (x1 : Int32) (x2 : Int32) (x3 : Int32) (of : Int32) (cr : Int32) (wn : Int32) (dk : Nat → Int32) (wk : Nat → Int32) : Option (Int32 × Int32 × Int32 × Int32 × (Nat → Int32) × (Nat → Int32)) := if 16 ≤ x3 then ((p_R_put of cr wn dk wk x1).bind (fun r_2 => if r_2.1 &&& 1 = r_2.1 then (some (r_2.1, r_2.2.1, r_2.2.2.1, r_2.2.2.2.1, r_2.2.2.2.2, wk)) else none)) else (if kx_in ((16 * x2) + x3) 528 then (if kx_in x3 16 then (k_2 x1 x2 (x3 + 1) of cr wn dk (upd wk x3.toNatClampNeg (dk ((16 * x2) + x3).toNatClampNeg))) else none) else none)
def pl_R_putFromDisk_2 : Nat → Int32 → Int32 → Int32 → Int32 → Int32 → Int32 → (Nat → Int32) → (Nat → Int32) → Option (Int32 × Int32 × Int32 × Int32 × (Nat → Int32) × (Nat → Int32))
  | 0 => fun _ _ _ _ _ _ _ _ => none
  | n + 1 => p_R_putFromDisk_2 (pl_R_putFromDisk_2 n)
def p_R_putFromDisk (of : Int32) (cr : Int32) (wn : Int32) (dk : Nat → Int32) (wk : Nat → Int32) (a1 : Int32) (a2 : Int32) : Option (Int32 × Int32 × Int32 × Int32 × (Nat → Int32) × (Nat → Int32)) := pl_R_putFromDisk_2 1000 a1 a2 0 of cr wn dk wk

/- Model.putFromMemory(I)Z -/
def p_R_putFromMemory_2 (mm : Nat → Int32) (k_2 : Int32 → Int32 → Int32 → Int32 → Int32 → (Nat → Int32) → (Nat → Int32) → Option (Int32 × Int32 × Int32 × Int32 × (Nat → Int32) × (Nat → Int32))) (x1 : Int32) (x2 : Int32) (of : Int32) (cr : Int32) (wn : Int32) (dk : Nat → Int32) (wk : Nat → Int32) : Option (Int32 × Int32 × Int32 × Int32 × (Nat → Int32) × (Nat → Int32)) := if 16 ≤ x2 then ((p_R_put of cr wn dk wk x1).bind (fun r_2 => if r_2.1 &&& 1 = r_2.1 then (some (r_2.1, r_2.2.1, r_2.2.2.1, r_2.2.2.2.1, r_2.2.2.2.2, wk)) else none)) else (if kx_in ((16 * x1) + x2) 256 then (if kx_in x2 16 then (k_2 x1 (x2 + 1) of cr wn dk (upd wk x2.toNatClampNeg (mm ((16 * x1) + x2).toNatClampNeg))) else none) else none)
def pl_R_putFromMemory_2 (mm : Nat → Int32) : Nat → Int32 → Int32 → Int32 → Int32 → Int32 → (Nat → Int32) → (Nat → Int32) → Option (Int32 × Int32 × Int32 × Int32 × (Nat → Int32) × (Nat → Int32))
  | 0 => fun _ _ _ _ _ _ _ => none
  | n + 1 => p_R_putFromMemory_2 mm (pl_R_putFromMemory_2 mm n)
def p_R_putFromMemory (of : Int32) (cr : Int32) (wn : Int32) (dk : Nat → Int32) (mm : Nat → Int32) (wk : Nat → Int32) (a1 : Int32) : Option (Int32 × Int32 × Int32 × Int32 × (Nat → Int32) × (Nat → Int32)) := pl_R_putFromMemory_2 mm 1000 a1 0 of cr wn dk wk

/- Model.check(I)I -/
def p_R_check_6 (dk : Nat → Int32) (k_6 : Int32 → Int32 → Int32 → Option Int32) (x1 : Int32) (x2 : Int32) (x3 : Int32) : Option Int32 := if (272 + (16 * x1)) ≤ x3 then (some x2) else (if kx_in x3 528 then (kl ((31 * x2) + (dk x3.toNatClampNeg) : Int32) (fun v_3 => k_6 x1 v_3 (x3 + 1))) else none)
def pl_R_check_6 (dk : Nat → Int32) : Nat → Int32 → Int32 → Int32 → Option Int32
  | 0 => fun _ _ _ => none
  | n + 1 => p_R_check_6 dk (pl_R_check_6 dk n)
def p_R_check (dk : Nat → Int32) (a1 : Int32) : Option Int32 := pl_R_check_6 dk 1000 a1 1 272

/- Model.putHead(II)Z -/
def p_R_putHead_59 (of : Int32) (cr : Int32) (wn : Int32) (dk : Nat → Int32) (wk : Nat → Int32) : Option (Int32 × Int32 × Int32 × Int32 × (Nat → Int32) × (Nat → Int32)) := (p_R_put of cr wn dk wk 16).bind (fun r_1 => if r_1.1 &&& 1 = r_1.1 then (some (r_1.1, r_1.2.1, r_1.2.2.1, r_1.2.2.2.1, r_1.2.2.2.2, wk)) else none)
def p_R_putHead_2 (k_2 : Int32 → Int32 → Int32 → Int32 → Int32 → Int32 → (Nat → Int32) → (Nat → Int32) → Option (Int32 × Int32 × Int32 × Int32 × (Nat → Int32) × (Nat → Int32))) (x1 : Int32) (x2 : Int32) (x3 : Int32) (of : Int32) (cr : Int32) (wn : Int32) (dk : Nat → Int32) (wk : Nat → Int32) : Option (Int32 × Int32 × Int32 × Int32 × (Nat → Int32) × (Nat → Int32)) := if 16 ≤ x3 then (if x1 ≤ 0 then (p_R_putHead_59 of cr wn dk wk) else (if kx_in 0 16 then (if kx_in 1 16 then (if kx_in 2 16 then ((p_R_check dk x1).bind (fun r_8 => if kx_in 3 16 then (p_R_putHead_59 of cr wn dk (upd (upd (upd (upd wk (0 : Int32).toNatClampNeg 6517) (1 : Int32).toNatClampNeg x1) (2 : Int32).toNatClampNeg x2) (3 : Int32).toNatClampNeg r_8)) else none)) else none) else none) else none)) else (if kx_in x3 16 then (k_2 x1 x2 (x3 + 1) of cr wn dk (upd wk x3.toNatClampNeg 0)) else none)
def pl_R_putHead_2 : Nat → Int32 → Int32 → Int32 → Int32 → Int32 → Int32 → (Nat → Int32) → (Nat → Int32) → Option (Int32 × Int32 × Int32 × Int32 × (Nat → Int32) × (Nat → Int32))
  | 0 => fun _ _ _ _ _ _ _ _ => none
  | n + 1 => p_R_putHead_2 (pl_R_putHead_2 n)
def p_R_putHead (of : Int32) (cr : Int32) (wn : Int32) (dk : Nat → Int32) (wk : Nat → Int32) (a1 : Int32) (a2 : Int32) : Option (Int32 × Int32 × Int32 × Int32 × (Nat → Int32) × (Nat → Int32)) := pl_R_putHead_2 1000 a1 a2 0 of cr wn dk wk

/- Model.changed()I -/
def p_R_changed_38 (dk : Nat → Int32) (mm : Nat → Int32) (k_4 : Int32 → Int32 → Option Int32) (x2 : Int32) (z0 : Int32) : Option Int32 := k_4 z0 (x2 + 1)
def p_R_changed_4 (dk : Nat → Int32) (mm : Nat → Int32) (k_4 : Int32 → Int32 → Option Int32) (x1 : Int32) (x2 : Int32) : Option Int32 := if 256 ≤ x2 then (some x1) else (if kx_in x2 528 then (if kx_in x2 256 then (if (dk x2.toNatClampNeg) = (mm x2.toNatClampNeg) then (p_R_changed_38 dk mm k_4 x2 x1) else (p_R_changed_38 dk mm k_4 x2 (x1 ||| ((1 : Int32) <<< ((x2 / 16) &&& 31))))) else none) else none)
def pl_R_changed_4 (dk : Nat → Int32) (mm : Nat → Int32) : Nat → Int32 → Int32 → Option Int32
  | 0 => fun _ _ => none
  | n + 1 => p_R_changed_4 dk mm (pl_R_changed_4 dk mm n)
def p_R_changed (dk : Nat → Int32) (mm : Nat → Int32) : Option Int32 := pl_R_changed_4 dk mm 1000 0 0

/- Model.copyBack()V -/
def p_R_copyBack_2 (dk : Nat → Int32) (k_2 : Int32 → Int32 → (Nat → Int32) → Option (Int32 × (Nat → Int32))) (x1 : Int32) (op : Int32) (mm : Nat → Int32) : Option (Int32 × (Nat → Int32)) := if 256 ≤ x1 then (some (0, mm)) else (if kx_in x1 528 then (if kx_in x1 256 then (k_2 (x1 + 1) op (upd mm x1.toNatClampNeg (dk x1.toNatClampNeg))) else none) else none)
def pl_R_copyBack_2 (dk : Nat → Int32) : Nat → Int32 → Int32 → (Nat → Int32) → Option (Int32 × (Nat → Int32))
  | 0 => fun _ _ _ => none
  | n + 1 => p_R_copyBack_2 dk (pl_R_copyBack_2 dk n)
def p_R_copyBack (op : Int32) (dk : Nat → Int32) (mm : Nat → Int32) : Option (Int32 × (Nat → Int32)) := pl_R_copyBack_2 dk 1000 0 op mm

/- Model.noTable(I)Z -/
def p_R_noTable_23 (mm : Nat → Int32) (z0 : Int32) : Option Int32 := if z0 &&& 1 = z0 then (some z0) else none
def p_R_noTable_18 (mm : Nat → Int32) : Option Int32 := p_R_noTable_23 mm 1
def p_R_noTable (mm : Nat → Int32) (a1 : Int32) : Option Int32 := if a1 < 0 then (p_R_noTable_18 mm) else (if 4 < a1 then (p_R_noTable_18 mm) else (if kx_in a1 256 then (if (mm a1.toNatClampNeg) = 0 then (p_R_noTable_18 mm) else (p_R_noTable_23 mm 0)) else none))

/- Model.slots(I)I -/
def p_R_slots (mm : Nat → Int32) (a1 : Int32) : Option Int32 := if kx_in a1 256 then (if ¬ (mm a1.toNatClampNeg) = 0 then (some (13 / (mm a1.toNatClampNeg))) else none) else none

/- Model.change(I)V -/
def p_R_change_36 (tb : Nat → Int32) (k_2 : Int32 → Int32 → (Nat → Int32) → Option ((Nat → Int32))) (x1 : Int32) (x2 : Int32) (z0 : Int32) (z1 : Int32) (de : Nat → Int32) : Option ((Nat → Int32)) := if kx_in z1 4 then (k_2 x1 (x2 + 1) (upd de z1.toNatClampNeg (vp_nar .boolean z0))) else none
def p_R_change_31 (tb : Nat → Int32) (k_2 : Int32 → Int32 → (Nat → Int32) → Option ((Nat → Int32))) (x1 : Int32) (x2 : Int32) (z0 : Int32) (de : Nat → Int32) : Option ((Nat → Int32)) := p_R_change_36 tb k_2 x1 x2 1 z0 de
def p_R_change_2 (tb : Nat → Int32) (k_2 : Int32 → Int32 → (Nat → Int32) → Option ((Nat → Int32))) (x1 : Int32) (x2 : Int32) (de : Nat → Int32) : Option ((Nat → Int32)) := if 4 ≤ x2 then (some de) else (if kx_in x2 4 then (if (de x2.toNatClampNeg) = 0 then (if kx_in x2 4 then (if (tb x2.toNatClampNeg) = x1 then (p_R_change_31 tb k_2 x1 x2 x2 de) else (p_R_change_36 tb k_2 x1 x2 0 x2 de)) else none) else (p_R_change_31 tb k_2 x1 x2 x2 de)) else none)
def pl_R_change_2 (tb : Nat → Int32) : Nat → Int32 → Int32 → (Nat → Int32) → Option ((Nat → Int32))
  | 0 => fun _ _ _ => none
  | n + 1 => p_R_change_2 tb (pl_R_change_2 tb n)
def p_R_change (tb : Nat → Int32) (de : Nat → Int32) (a1 : Int32) : Option ((Nat → Int32)) := pl_R_change_2 tb 1000 a1 0 de

/- Model.clearPage(I)V -/
def p_R_clearPage_2 (k_2 : Int32 → Int32 → (Nat → Int32) → Option ((Nat → Int32))) (x1 : Int32) (x2 : Int32) (mm : Nat → Int32) : Option ((Nat → Int32)) := if 16 ≤ x2 then (some mm) else (if kx_in ((16 * x1) + x2) 256 then (k_2 x1 (x2 + 1) (upd mm ((16 * x1) + x2).toNatClampNeg 0)) else none)
def pl_R_clearPage_2 : Nat → Int32 → Int32 → (Nat → Int32) → Option ((Nat → Int32))
  | 0 => fun _ _ _ => none
  | n + 1 => p_R_clearPage_2 (pl_R_clearPage_2 n)
def p_R_clearPage (mm : Nat → Int32) (a1 : Int32) : Option ((Nat → Int32)) := pl_R_clearPage_2 1000 a1 0 mm

/- Model.wordOf(III)I -/
def p_R_wordOf (mm : Nat → Int32) (a1 : Int32) (a2 : Int32) (a3 : Int32) : Option Int32 := if kx_in a1 256 then (some (((16 * a2) + 3) + ((mm a1.toNatClampNeg) * a3))) else none

/- Model.filled(II)Z -/
def p_R_filled_24 (mm : Nat → Int32) (z0 : Int32) : Option Int32 := if z0 &&& 1 = z0 then (some z0) else none
def p_R_filled (mm : Nat → Int32) (a1 : Int32) (a2 : Int32) : Option Int32 := if kx_in ((16 * a1) + 2) 256 then (if (((mm ((16 * a1) + 2).toNatClampNeg) >>> (a2 &&& 31)) &&& 1) = 1 then (p_R_filled_24 mm 1) else (p_R_filled_24 mm 0)) else none

/- Model.seek(II)I -/
def p_R_seek_89 (mm : Nat → Int32) (k_2 : Int32 → Int32 → Int32 → Int32 → Int32 → Option (Int32 × Int32 × Int32)) (x1 : Int32) (x2 : Int32) (x3 : Int32) (fp : Int32) (fs : Int32) : Option (Int32 × Int32 × Int32) := k_2 x1 x2 (x3 + 1) fp fs
def p_R_seek_83 (mm : Nat → Int32) (k_2 : Int32 → Int32 → Int32 → Int32 → Int32 → Option (Int32 × Int32 × Int32)) (k_26 : Int32 → Int32 → Int32 → Int32 → Int32 → Int32 → Option (Int32 × Int32 × Int32)) (x1 : Int32) (x2 : Int32) (x3 : Int32) (x4 : Int32) (fp : Int32) (fs : Int32) : Option (Int32 × Int32 × Int32) := k_26 x1 x2 x3 (x4 + 1) fp fs
def p_R_seek_26 (mm : Nat → Int32) (k_2 : Int32 → Int32 → Int32 → Int32 → Int32 → Option (Int32 × Int32 × Int32)) (k_26 : Int32 → Int32 → Int32 → Int32 → Int32 → Int32 → Option (Int32 × Int32 × Int32)) (x1 : Int32) (x2 : Int32) (x3 : Int32) (x4 : Int32) (fp : Int32) (fs : Int32) : Option (Int32 × Int32 × Int32) := (p_R_slots mm x1).bind (fun r_1 => if r_1 ≤ x4 then (p_R_seek_89 mm k_2 x1 x2 x3 fp fs) else ((p_R_filled mm x3 x4).bind (fun r_3 => if r_3 = 0 then (p_R_seek_83 mm k_2 k_26 x1 x2 x3 x4 fp fs) else ((p_R_wordOf mm x1 x3 x4).bind (fun r_5 => if kx_in r_5 256 then (if (mm r_5.toNatClampNeg) = x2 then ((p_R_wordOf mm x1 x3 x4).bind (fun r_8 => some (r_8, x3, x4))) else (p_R_seek_83 mm k_2 k_26 x1 x2 x3 x4 fp fs)) else none)))))
def pl_R_seek_26 (mm : Nat → Int32) (k_2 : Int32 → Int32 → Int32 → Int32 → Int32 → Option (Int32 × Int32 × Int32)) : Nat → Int32 → Int32 → Int32 → Int32 → Int32 → Int32 → Option (Int32 × Int32 × Int32)
  | 0 => fun _ _ _ _ _ _ => none
  | n + 1 => p_R_seek_26 mm k_2 (pl_R_seek_26 mm k_2 n)
def p_R_seek_2 (mm : Nat → Int32) (k_2 : Int32 → Int32 → Int32 → Int32 → Int32 → Option (Int32 × Int32 × Int32)) (x1 : Int32) (x2 : Int32) (x3 : Int32) (fp : Int32) (fs : Int32) : Option (Int32 × Int32 × Int32) := if 16 ≤ x3 then (some ((-1), fp, fs)) else (if kx_in (16 * x3) 256 then (if (mm (16 * x3).toNatClampNeg) = (x1 + 1) then (pl_R_seek_26 mm k_2 1000 x1 x2 x3 0 fp fs) else (p_R_seek_89 mm k_2 x1 x2 x3 fp fs)) else none)
def pl_R_seek_2 (mm : Nat → Int32) : Nat → Int32 → Int32 → Int32 → Int32 → Int32 → Option (Int32 × Int32 × Int32)
  | 0 => fun _ _ _ _ _ => none
  | n + 1 => p_R_seek_2 mm (pl_R_seek_2 mm n)
def p_R_seek (fp : Int32) (fs : Int32) (mm : Nat → Int32) (a1 : Int32) (a2 : Int32) : Option (Int32 × Int32 × Int32) := pl_R_seek_2 mm 1000 a1 a2 1 fp fs

/- Model.leads(II)I -/
def p_R_leads_5 (mm : Nat → Int32) (k_5 : Int32 → Int32 → Option Int32) (x2 : Int32) (x3 : Int32) : Option Int32 := if kx_in x3 256 then (if (mm x3.toNatClampNeg) = x2 then (some x3) else (if kx_in x3 256 then (kl ((16 * (mm x3.toNatClampNeg)) + 1 : Int32) (fun v_4 => k_5 x2 v_4)) else none)) else none
def pl_R_leads_5 (mm : Nat → Int32) : Nat → Int32 → Int32 → Option Int32
  | 0 => fun _ _ => none
  | n + 1 => p_R_leads_5 mm (pl_R_leads_5 mm n)
def p_R_leads (mm : Nat → Int32) (a1 : Int32) (a2 : Int32) : Option Int32 := kl (8 + a1 : Int32) (fun v_5 => pl_R_leads_5 mm 1000 a2 v_5)

/- Model.lay(III)V -/
def p_R_lay_29 (sg : Nat → Int32) (tb : Nat → Int32) (k_29 : Int32 → Int32 → Int32 → Int32 → (Nat → Int32) → (Nat → Int32) → Option ((Nat → Int32) × (Nat → Int32))) (x1 : Int32) (x2 : Int32) (x3 : Int32) (x4 : Int32) (mm : Nat → Int32) (de : Nat → Int32) : Option ((Nat → Int32) × (Nat → Int32)) := if kx_in x1 256 then (if (mm x1.toNatClampNeg) ≤ x4 then ((p_R_change tb de x1).bind (fun r_3 => some (mm, r_3))) else ((p_R_wordOf mm x1 x2 x3).bind (fun r_4 => if kx_in x4 6 then (if kx_in (r_4 + x4) 256 then (k_29 x1 x2 x3 (x4 + 1) (upd mm (r_4 + x4).toNatClampNeg (sg x4.toNatClampNeg)) de) else none) else none))) else none
def pl_R_lay_29 (sg : Nat → Int32) (tb : Nat → Int32) : Nat → Int32 → Int32 → Int32 → Int32 → (Nat → Int32) → (Nat → Int32) → Option ((Nat → Int32) × (Nat → Int32))
  | 0 => fun _ _ _ _ _ _ => none
  | n + 1 => p_R_lay_29 sg tb (pl_R_lay_29 sg tb n)
def p_R_lay (mm : Nat → Int32) (sg : Nat → Int32) (tb : Nat → Int32) (de : Nat → Int32) (a1 : Int32) (a2 : Int32) (a3 : Int32) : Option ((Nat → Int32) × (Nat → Int32)) := if kx_in ((16 * a2) + 2) 256 then (if kx_in ((16 * a2) + 2) 256 then (pl_R_lay_29 sg tb 1000 a1 a2 a3 0 (upd mm ((16 * a2) + 2).toNatClampNeg ((mm ((16 * a2) + 2).toNatClampNeg) ||| ((1 : Int32) <<< (a3 &&& 31)))) de) else none) else none

/- Model.freePage()I -/
def p_R_freePage_2 (mm : Nat → Int32) (k_2 : Int32 → Option Int32) (x1 : Int32) : Option Int32 := if 16 ≤ x1 then (some 0) else (if kx_in (16 * x1) 256 then (if (mm (16 * x1).toNatClampNeg) = 0 then (some x1) else (k_2 (x1 + 1))) else none)
def pl_R_freePage_2 (mm : Nat → Int32) : Nat → Int32 → Option Int32
  | 0 => fun _ => none
  | n + 1 => p_R_freePage_2 mm (pl_R_freePage_2 mm n)
def p_R_freePage (mm : Nat → Int32) : Option Int32 := pl_R_freePage_2 mm 1000 1

/- Model.noScan(I)Z -/
def p_R_noScan_30 (of : Int32) (us : Nat → Int32) (z0 : Int32) : Option Int32 := if z0 &&& 1 = z0 then (some z0) else none
def p_R_noScan_25 (of : Int32) (us : Nat → Int32) : Option Int32 := p_R_noScan_30 of us 1
def p_R_noScan (of : Int32) (us : Nat → Int32) (a1 : Int32) : Option Int32 := if of = 0 then (if a1 < 0 then (p_R_noScan_25 of us) else (if 3 < a1 then (p_R_noScan_25 of us) else (if kx_in a1 4 then (if (us a1.toNatClampNeg) = 0 then (p_R_noScan_25 of us) else (p_R_noScan_30 of us 0)) else none))) else (p_R_noScan_25 of us)

/- Model.bits(I)I -/
def p_R_bits_4 (k_4 : Int32 → Int32 → Int32 → Option Int32) (x0 : Int32) (x1 : Int32) (x2 : Int32) : Option Int32 := if 32 ≤ x2 then (some x1) else (kl (x1 + ((x0 >>> (x2 &&& 31)) &&& 1) : Int32) (fun v_2 => k_4 x0 v_2 (x2 + 1)))
def pl_R_bits_4 : Nat → Int32 → Int32 → Int32 → Option Int32
  | 0 => fun _ _ _ => none
  | n + 1 => p_R_bits_4 (pl_R_bits_4 n)
def p_R_bits (a1 : Int32) : Option Int32 := pl_R_bits_4 1000 a1 0 0

/- Model.commit()I -/
def p_R_commit_166 (mm : Nat → Int32) (x3 : Int32) (of : Int32) (op : Int32) (cr : Int32) (wn : Int32) (dk : Nat → Int32) (wk : Nat → Int32) : Option (Int32 × Int32 × Int32 × Int32 × Int32 × (Nat → Int32) × (Nat → Int32)) := if x3 = 0 then (some ((-1), of, op, cr, wn, dk, wk)) else (some (0, of, 0, cr, wn, dk, wk))
def p_R_commit_165 (mm : Nat → Int32) (z0 : Int32) (of : Int32) (op : Int32) (cr : Int32) (wn : Int32) (dk : Nat → Int32) (wk : Nat → Int32) : Option (Int32 × Int32 × Int32 × Int32 × Int32 × (Nat → Int32) × (Nat → Int32)) := p_R_commit_166 mm z0 of op cr wn dk wk
def p_R_commit_164 (mm : Nat → Int32) (of : Int32) (op : Int32) (cr : Int32) (wn : Int32) (dk : Nat → Int32) (wk : Nat → Int32) : Option (Int32 × Int32 × Int32 × Int32 × Int32 × (Nat → Int32) × (Nat → Int32)) := p_R_commit_165 mm 0 of op cr wn dk wk
def p_R_commit_140 (mm : Nat → Int32) (k_106 : Int32 → Int32 → Int32 → Int32 → Int32 → Int32 → Int32 → (Nat → Int32) → (Nat → Int32) → Option (Int32 × Int32 × Int32 × Int32 × Int32 × (Nat → Int32) × (Nat → Int32))) (x1 : Int32) (x4 : Int32) (z0 : Int32) (of : Int32) (op : Int32) (cr : Int32) (wn : Int32) (dk : Nat → Int32) (wk : Nat → Int32) : Option (Int32 × Int32 × Int32 × Int32 × Int32 × (Nat → Int32) × (Nat → Int32)) := k_106 x1 z0 (x4 + 1) of op cr wn dk wk
def p_R_commit_139 (mm : Nat → Int32) (k_106 : Int32 → Int32 → Int32 → Int32 → Int32 → Int32 → Int32 → (Nat → Int32) → (Nat → Int32) → Option (Int32 × Int32 × Int32 × Int32 × Int32 × (Nat → Int32) × (Nat → Int32))) (x1 : Int32) (x4 : Int32) (of : Int32) (op : Int32) (cr : Int32) (wn : Int32) (dk : Nat → Int32) (wk : Nat → Int32) : Option (Int32 × Int32 × Int32 × Int32 × Int32 × (Nat → Int32) × (Nat → Int32)) := p_R_commit_140 mm k_106 x1 x4 0 of op cr wn dk wk
def p_R_commit_135 (mm : Nat → Int32) (k_106 : Int32 → Int32 → Int32 → Int32 → Int32 → Int32 → Int32 → (Nat → Int32) → (Nat → Int32) → Option (Int32 × Int32 × Int32 × Int32 × Int32 × (Nat → Int32) × (Nat → Int32))) (x1 : Int32) (x4 : Int32) (of : Int32) (op : Int32) (cr : Int32) (wn : Int32) (dk : Nat → Int32) (wk : Nat → Int32) : Option (Int32 × Int32 × Int32 × Int32 × Int32 × (Nat → Int32) × (Nat → Int32)) := p_R_commit_140 mm k_106 x1 x4 1 of op cr wn dk wk
def p_R_commit_106 (mm : Nat → Int32) (k_106 : Int32 → Int32 → Int32 → Int32 → Int32 → Int32 → Int32 → (Nat → Int32) → (Nat → Int32) → Option (Int32 × Int32 × Int32 × Int32 × Int32 × (Nat → Int32) × (Nat → Int32))) (x1 : Int32) (x3 : Int32) (x4 : Int32) (of : Int32) (op : Int32) (cr : Int32) (wn : Int32) (dk : Nat → Int32) (wk : Nat → Int32) : Option (Int32 × Int32 × Int32 × Int32 × Int32 × (Nat → Int32) × (Nat → Int32)) := if 16 ≤ x4 then (if x3 = 0 then (p_R_commit_164 mm of op cr wn dk wk) else ((p_R_putHead of cr wn dk wk 0 0).bind (fun r_4 => if r_4.1 = 0 then (p_R_commit_164 mm r_4.2.1 op r_4.2.2.1 r_4.2.2.2.1 r_4.2.2.2.2.1 r_4.2.2.2.2.2) else (p_R_commit_165 mm 1 r_4.2.1 op r_4.2.2.1 r_4.2.2.2.1 r_4.2.2.2.2.1 r_4.2.2.2.2.2)))) else (if x3 = 0 then (p_R_commit_139 mm k_106 x1 x4 of op cr wn dk wk) else (if ((x1 >>> (x4 &&& 31)) &&& 1) = 0 then (p_R_commit_135 mm k_106 x1 x4 of op cr wn dk wk) else ((p_R_putFromMemory of cr wn dk mm wk x4).bind (fun r_8 => if r_8.1 = 0 then (p_R_commit_139 mm k_106 x1 x4 r_8.2.1 op r_8.2.2.1 r_8.2.2.2.1 r_8.2.2.2.2.1 r_8.2.2.2.2.2) else (p_R_commit_135 mm k_106 x1 x4 r_8.2.1 op r_8.2.2.1 r_8.2.2.2.1 r_8.2.2.2.2.1 r_8.2.2.2.2.2)))))
def pl_R_commit_106 (mm : Nat → Int32) : Nat → Int32 → Int32 → Int32 → Int32 → Int32 → Int32 → Int32 → (Nat → Int32) → (Nat → Int32) → Option (Int32 × Int32 × Int32 × Int32 × Int32 × (Nat → Int32) × (Nat → Int32))
  | 0 => fun _ _ _ _ _ _ _ _ _ => none
  | n + 1 => p_R_commit_106 mm (pl_R_commit_106 mm n)
def p_R_commit_102 (mm : Nat → Int32) (x1 : Int32) (z0 : Int32) (of : Int32) (op : Int32) (cr : Int32) (wn : Int32) (dk : Nat → Int32) (wk : Nat → Int32) : Option (Int32 × Int32 × Int32 × Int32 × Int32 × (Nat → Int32) × (Nat → Int32)) := pl_R_commit_106 mm 1000 x1 z0 0 of op cr wn dk wk
def p_R_commit_101 (mm : Nat → Int32) (x1 : Int32) (of : Int32) (op : Int32) (cr : Int32) (wn : Int32) (dk : Nat → Int32) (wk : Nat → Int32) : Option (Int32 × Int32 × Int32 × Int32 × Int32 × (Nat → Int32) × (Nat → Int32)) := p_R_commit_102 mm x1 0 of op cr wn dk wk
def p_R_commit_74 (mm : Nat → Int32) (k_31 : Int32 → Int32 → Int32 → Int32 → Int32 → Int32 → Int32 → Int32 → (Nat → Int32) → (Nat → Int32) → Option (Int32 × Int32 × Int32 × Int32 × Int32 × (Nat → Int32) × (Nat → Int32))) (x1 : Int32) (x2 : Int32) (x3 : Int32) (x4 : Int32) (of : Int32) (op : Int32) (cr : Int32) (wn : Int32) (dk : Nat → Int32) (wk : Nat → Int32) : Option (Int32 × Int32 × Int32 × Int32 × Int32 × (Nat → Int32) × (Nat → Int32)) := k_31 x1 x2 x3 (x4 + 1) of op cr wn dk wk
def p_R_commit_70 (mm : Nat → Int32) (k_31 : Int32 → Int32 → Int32 → Int32 → Int32 → Int32 → Int32 → Int32 → (Nat → Int32) → (Nat → Int32) → Option (Int32 × Int32 × Int32 × Int32 × Int32 × (Nat → Int32) × (Nat → Int32))) (x1 : Int32) (x2 : Int32) (x4 : Int32) (z0 : Int32) (of : Int32) (op : Int32) (cr : Int32) (wn : Int32) (dk : Nat → Int32) (wk : Nat → Int32) : Option (Int32 × Int32 × Int32 × Int32 × Int32 × (Nat → Int32) × (Nat → Int32)) := p_R_commit_74 mm k_31 x1 (x2 + 1) z0 x4 of op cr wn dk wk
def p_R_commit_69 (mm : Nat → Int32) (k_31 : Int32 → Int32 → Int32 → Int32 → Int32 → Int32 → Int32 → Int32 → (Nat → Int32) → (Nat → Int32) → Option (Int32 × Int32 × Int32 × Int32 × Int32 × (Nat → Int32) × (Nat → Int32))) (x1 : Int32) (x2 : Int32) (x4 : Int32) (of : Int32) (op : Int32) (cr : Int32) (wn : Int32) (dk : Nat → Int32) (wk : Nat → Int32) : Option (Int32 × Int32 × Int32 × Int32 × Int32 × (Nat → Int32) × (Nat → Int32)) := p_R_commit_70 mm k_31 x1 x2 x4 0 of op cr wn dk wk
def p_R_commit_31 (mm : Nat → Int32) (k_31 : Int32 → Int32 → Int32 → Int32 → Int32 → Int32 → Int32 → Int32 → (Nat → Int32) → (Nat → Int32) → Option (Int32 × Int32 × Int32 × Int32 × Int32 × (Nat → Int32) × (Nat → Int32))) (x1 : Int32) (x2 : Int32) (x3 : Int32) (x4 : Int32) (of : Int32) (op : Int32) (cr : Int32) (wn : Int32) (dk : Nat → Int32) (wk : Nat → Int32) : Option (Int32 × Int32 × Int32 × Int32 × Int32 × (Nat → Int32) × (Nat → Int32)) := if 16 ≤ x4 then (if x2 ≤ 0 then (p_R_commit_166 mm x3 of op cr wn dk wk) else (if x3 = 0 then (p_R_commit_101 mm x1 of op cr wn dk wk) else ((p_R_putHead of cr wn dk wk x2 x1).bind (fun r_13 => if r_13.1 = 0 then (p_R_commit_101 mm x1 r_13.2.1 op r_13.2.2.1 r_13.2.2.2.1 r_13.2.2.2.2.1 r_13.2.2.2.2.2) else (p_R_commit_102 mm x1 1 r_13.2.1 op r_13.2.2.1 r_13.2.2.2.1 r_13.2.2.2.2.1 r_13.2.2.2.2.2))))) else (if ((x1 >>> (x4 &&& 31)) &&& 1) = 1 then (if x3 = 0 then (p_R_commit_69 mm k_31 x1 x2 x4 of op cr wn dk wk) else ((p_R_putFromDisk of cr wn dk wk (17 + x2) x4).bind (fun r_17 => if r_17.1 = 0 then (p_R_commit_69 mm k_31 x1 x2 x4 r_17.2.1 op r_17.2.2.1 r_17.2.2.2.1 r_17.2.2.2.2.1 r_17.2.2.2.2.2) else (p_R_commit_70 mm k_31 x1 x2 x4 1 r_17.2.1 op r_17.2.2.1 r_17.2.2.2.1 r_17.2.2.2.2.1 r_17.2.2.2.2.2)))) else (p_R_commit_74 mm k_31 x1 x2 x3 x4 of op cr wn dk wk))
def pl_R_commit_31 (mm : Nat → Int32) : Nat → Int32 → Int32 → Int32 → Int32 → Int32 → Int32 → Int32 → Int32 → (Nat → Int32) → (Nat → Int32) → Option (Int32 × Int32 × Int32 × Int32 × Int32 × (Nat → Int32) × (Nat → Int32))
  | 0 => fun _ _ _ _ _ _ _ _ _ _ => none
  | n + 1 => p_R_commit_31 mm (pl_R_commit_31 mm n)
def p_R_commit (of : Int32) (op : Int32) (cr : Int32) (wn : Int32) (dk : Nat → Int32) (mm : Nat → Int32) (wk : Nat → Int32) : Option (Int32 × Int32 × Int32 × Int32 × Int32 × (Nat → Int32) × (Nat → Int32)) := if of = 0 then (if op = 0 then (some ((-2), of, op, cr, wn, dk, wk)) else ((p_R_changed dk mm).bind (fun r_21 => pl_R_commit_31 mm 1000 r_21 0 1 0 of op cr wn dk wk))) else (some ((-1), of, op, cr, wn, dk, wk))

/- Model.isHead()Z -/
def p_R_isHead_141 (dk : Nat → Int32) (z0 : Int32) : Option Int32 := if z0 &&& 1 = z0 then (some z0) else none
def p_R_isHead_140 (dk : Nat → Int32) : Option Int32 := p_R_isHead_141 dk 0
def p_R_isHead_109 (dk : Nat → Int32) (k_81 : Int32 → Int32 → Int32 → Option Int32) (x1 : Int32) (x3 : Int32) (z0 : Int32) : Option Int32 := k_81 x1 z0 (x3 + 1)
def p_R_isHead_108 (dk : Nat → Int32) (k_81 : Int32 → Int32 → Int32 → Option Int32) (x1 : Int32) (x3 : Int32) : Option Int32 := p_R_isHead_109 dk k_81 x1 x3 0
def p_R_isHead_81 (dk : Nat → Int32) (k_81 : Int32 → Int32 → Int32 → Option Int32) (x1 : Int32) (x2 : Int32) (x3 : Int32) : Option Int32 := if 16 ≤ x3 then (if x2 = 0 then (p_R_isHead_140 dk) else (if kx_in 259 528 then ((p_R_check dk x1).bind (fun r_5 => if (dk (259 : Int32).toNatClampNeg) = r_5 then (p_R_isHead_141 dk 1) else (p_R_isHead_140 dk))) else none)) else (if x2 = 0 then (p_R_isHead_108 dk k_81 x1 x3) else (if kx_in (256 + x3) 528 then (if (dk (256 + x3).toNatClampNeg) = 0 then (p_R_isHead_109 dk k_81 x1 x3 1) else (p_R_isHead_108 dk k_81 x1 x3)) else none))
def pl_R_isHead_81 (dk : Nat → Int32) : Nat → Int32 → Int32 → Int32 → Option Int32
  | 0 => fun _ _ _ => none
  | n + 1 => p_R_isHead_81 dk (pl_R_isHead_81 dk n)
def p_R_isHead_78 (dk : Nat → Int32) (x1 : Int32) (z0 : Int32) : Option Int32 := pl_R_isHead_81 dk 1000 x1 z0 4
def p_R_isHead_77 (dk : Nat → Int32) (x1 : Int32) : Option Int32 := p_R_isHead_78 dk x1 0
def p_R_isHead (dk : Nat → Int32) : Option Int32 := if kx_in 257 528 then (kl (dk (257 : Int32).toNatClampNeg : Int32) (fun v_11 => if kx_in 256 528 then (if (dk (256 : Int32).toNatClampNeg) = 6517 then (if v_11 < 1 then (p_R_isHead_77 dk v_11) else (if 16 < v_11 then (p_R_isHead_77 dk v_11) else (if kx_in 258 528 then (if (dk (258 : Int32).toNatClampNeg) < 0 then (p_R_isHead_77 dk v_11) else (if kx_in 258 528 then (if 65536 ≤ (dk (258 : Int32).toNatClampNeg) then (p_R_isHead_77 dk v_11) else (if kx_in 258 528 then ((p_R_bits (dk (258 : Int32).toNatClampNeg)).bind (fun r_21 => if r_21 = v_11 then (p_R_isHead_78 dk v_11 1) else (p_R_isHead_77 dk v_11))) else none)) else none)) else none))) else (p_R_isHead_77 dk v_11)) else none)) else none

/- Model.recover()I -/
def p_R_recover_108 (k_108 : Int32 → Int32 → Int32 → Int32 → Int32 → (Nat → Int32) → (Nat → Int32) → (Nat → Int32) → (Nat → Int32) → Option (Int32 × Int32 × Int32 × Int32 × Int32 × (Nat → Int32) × (Nat → Int32) × (Nat → Int32) × (Nat → Int32))) (x1 : Int32) (of : Int32) (op : Int32) (cr : Int32) (wn : Int32) (dk : Nat → Int32) (mm : Nat → Int32) (wk : Nat → Int32) (us : Nat → Int32) : Option (Int32 × Int32 × Int32 × Int32 × Int32 × (Nat → Int32) × (Nat → Int32) × (Nat → Int32) × (Nat → Int32)) := if 4 ≤ x1 then (some (0, of, op, cr, wn, dk, mm, wk, us)) else (if kx_in x1 4 then (k_108 (x1 + 1) of op cr wn dk mm wk (upd us x1.toNatClampNeg (vp_nar .boolean 0))) else none)
def pl_R_recover_108 : Nat → Int32 → Int32 → Int32 → Int32 → Int32 → (Nat → Int32) → (Nat → Int32) → (Nat → Int32) → (Nat → Int32) → Option (Int32 × Int32 × Int32 × Int32 × Int32 × (Nat → Int32) × (Nat → Int32) × (Nat → Int32) × (Nat → Int32))
  | 0 => fun _ _ _ _ _ _ _ _ _ => none
  | n + 1 => p_R_recover_108 (pl_R_recover_108 n)
def p_R_recover_102 (of : Int32) (op : Int32) (cr : Int32) (wn : Int32) (dk : Nat → Int32) (mm : Nat → Int32) (wk : Nat → Int32) (us : Nat → Int32) : Option (Int32 × Int32 × Int32 × Int32 × Int32 × (Nat → Int32) × (Nat → Int32) × (Nat → Int32) × (Nat → Int32)) := (p_R_copyBack op dk mm).bind (fun r_3 => pl_R_recover_108 1000 0 of r_3.1 cr wn dk r_3.2 wk us)
def p_R_recover_95 (z0 : Int32) (of : Int32) (op : Int32) (cr : Int32) (wn : Int32) (dk : Nat → Int32) (mm : Nat → Int32) (wk : Nat → Int32) (us : Nat → Int32) : Option (Int32 × Int32 × Int32 × Int32 × Int32 × (Nat → Int32) × (Nat → Int32) × (Nat → Int32) × (Nat → Int32)) := if z0 = 0 then (some ((-1), of, op, cr, wn, dk, mm, wk, us)) else (p_R_recover_102 of op cr wn dk mm wk us)
def p_R_recover_94 (of : Int32) (op : Int32) (cr : Int32) (wn : Int32) (dk : Nat → Int32) (mm : Nat → Int32) (wk : Nat → Int32) (us : Nat → Int32) : Option (Int32 × Int32 × Int32 × Int32 × Int32 × (Nat → Int32) × (Nat → Int32) × (Nat → Int32) × (Nat → Int32)) := p_R_recover_95 0 of op cr wn dk mm wk us
def p_R_recover_71 (k_28 : Int32 → Int32 → Int32 → Int32 → Int32 → Int32 → Int32 → Int32 → (Nat → Int32) → (Nat → Int32) → (Nat → Int32) → (Nat → Int32) → Option (Int32 × Int32 × Int32 × Int32 × Int32 × (Nat → Int32) × (Nat → Int32) × (Nat → Int32) × (Nat → Int32))) (x1 : Int32) (x2 : Int32) (x3 : Int32) (x4 : Int32) (of : Int32) (op : Int32) (cr : Int32) (wn : Int32) (dk : Nat → Int32) (mm : Nat → Int32) (wk : Nat → Int32) (us : Nat → Int32) : Option (Int32 × Int32 × Int32 × Int32 × Int32 × (Nat → Int32) × (Nat → Int32) × (Nat → Int32) × (Nat → Int32)) := k_28 x1 x2 x3 (x4 + 1) of op cr wn dk mm wk us
def p_R_recover_67 (k_28 : Int32 → Int32 → Int32 → Int32 → Int32 → Int32 → Int32 → Int32 → (Nat → Int32) → (Nat → Int32) → (Nat → Int32) → (Nat → Int32) → Option (Int32 × Int32 × Int32 × Int32 × Int32 × (Nat → Int32) × (Nat → Int32) × (Nat → Int32) × (Nat → Int32))) (x1 : Int32) (x2 : Int32) (x4 : Int32) (z0 : Int32) (of : Int32) (op : Int32) (cr : Int32) (wn : Int32) (dk : Nat → Int32) (mm : Nat → Int32) (wk : Nat → Int32) (us : Nat → Int32) : Option (Int32 × Int32 × Int32 × Int32 × Int32 × (Nat → Int32) × (Nat → Int32) × (Nat → Int32) × (Nat → Int32)) := p_R_recover_71 k_28 x1 (x2 + 1) z0 x4 of op cr wn dk mm wk us
def p_R_recover_66 (k_28 : Int32 → Int32 → Int32 → Int32 → Int32 → Int32 → Int32 → Int32 → (Nat → Int32) → (Nat → Int32) → (Nat → Int32) → (Nat → Int32) → Option (Int32 × Int32 × Int32 × Int32 × Int32 × (Nat → Int32) × (Nat → Int32) × (Nat → Int32) × (Nat → Int32))) (x1 : Int32) (x2 : Int32) (x4 : Int32) (of : Int32) (op : Int32) (cr : Int32) (wn : Int32) (dk : Nat → Int32) (mm : Nat → Int32) (wk : Nat → Int32) (us : Nat → Int32) : Option (Int32 × Int32 × Int32 × Int32 × Int32 × (Nat → Int32) × (Nat → Int32) × (Nat → Int32) × (Nat → Int32)) := p_R_recover_67 k_28 x1 x2 x4 0 of op cr wn dk mm wk us
def p_R_recover_28 (k_28 : Int32 → Int32 → Int32 → Int32 → Int32 → Int32 → Int32 → Int32 → (Nat → Int32) → (Nat → Int32) → (Nat → Int32) → (Nat → Int32) → Option (Int32 × Int32 × Int32 × Int32 × Int32 × (Nat → Int32) × (Nat → Int32) × (Nat → Int32) × (Nat → Int32))) (x1 : Int32) (x2 : Int32) (x3 : Int32) (x4 : Int32) (of : Int32) (op : Int32) (cr : Int32) (wn : Int32) (dk : Nat → Int32) (mm : Nat → Int32) (wk : Nat → Int32) (us : Nat → Int32) : Option (Int32 × Int32 × Int32 × Int32 × Int32 × (Nat → Int32) × (Nat → Int32) × (Nat → Int32) × (Nat → Int32)) := if 16 ≤ x4 then (if x3 = 0 then (p_R_recover_94 of op cr wn dk mm wk us) else ((p_R_putHead of cr wn dk wk 0 0).bind (fun r_7 => if r_7.1 = 0 then (p_R_recover_94 r_7.2.1 op r_7.2.2.1 r_7.2.2.2.1 r_7.2.2.2.2.1 mm r_7.2.2.2.2.2 us) else (p_R_recover_95 1 r_7.2.1 op r_7.2.2.1 r_7.2.2.2.1 r_7.2.2.2.2.1 mm r_7.2.2.2.2.2 us)))) else (if ((x1 >>> (x4 &&& 31)) &&& 1) = 1 then (if x3 = 0 then (p_R_recover_66 k_28 x1 x2 x4 of op cr wn dk mm wk us) else ((p_R_putFromDisk of cr wn dk wk x4 (17 + x2)).bind (fun r_11 => if r_11.1 = 0 then (p_R_recover_66 k_28 x1 x2 x4 r_11.2.1 op r_11.2.2.1 r_11.2.2.2.1 r_11.2.2.2.2.1 mm r_11.2.2.2.2.2 us) else (p_R_recover_67 k_28 x1 x2 x4 1 r_11.2.1 op r_11.2.2.1 r_11.2.2.2.1 r_11.2.2.2.2.1 mm r_11.2.2.2.2.2 us)))) else (p_R_recover_71 k_28 x1 x2 x3 x4 of op cr wn dk mm wk us))
def pl_R_recover_28 : Nat → Int32 → Int32 → Int32 → Int32 → Int32 → Int32 → Int32 → Int32 → (Nat → Int32) → (Nat → Int32) → (Nat → Int32) → (Nat → Int32) → Option (Int32 × Int32 × Int32 × Int32 × Int32 × (Nat → Int32) × (Nat → Int32) × (Nat → Int32) × (Nat → Int32))
  | 0 => fun _ _ _ _ _ _ _ _ _ _ _ _ => none
  | n + 1 => p_R_recover_28 (pl_R_recover_28 n)
def p_R_recover (of : Int32) (op : Int32) (cr : Int32) (wn : Int32) (dk : Nat → Int32) (mm : Nat → Int32) (wk : Nat → Int32) (us : Nat → Int32) : Option (Int32 × Int32 × Int32 × Int32 × Int32 × (Nat → Int32) × (Nat → Int32) × (Nat → Int32) × (Nat → Int32)) := (p_R_isHead dk).bind (fun r_13 => if r_13 = 0 then (p_R_recover_102 0 op cr wn dk mm wk us) else (if kx_in 258 528 then (kl (dk (258 : Int32).toNatClampNeg : Int32) (fun v_16 => pl_R_recover_28 1000 v_16 0 1 0 0 op cr wn dk mm wk us)) else none))

/- Model.format()I -/
def p_R_format_38 (k_38 : Int32 → Int32 → Int32 → Int32 → (Nat → Int32) → (Nat → Int32) → (Nat → Int32) → Option (Int32 × Int32 × Int32 × Int32 × (Nat → Int32) × (Nat → Int32) × (Nat → Int32))) (x1 : Int32) (of : Int32) (op : Int32) (cr : Int32) (dk : Nat → Int32) (mm : Nat → Int32) (us : Nat → Int32) : Option (Int32 × Int32 × Int32 × Int32 × (Nat → Int32) × (Nat → Int32) × (Nat → Int32)) := if 4 ≤ x1 then (some (0, of, op, cr, dk, mm, us)) else (if kx_in x1 4 then (k_38 (x1 + 1) of op cr dk mm (upd us x1.toNatClampNeg (vp_nar .boolean 0))) else none)
def pl_R_format_38 : Nat → Int32 → Int32 → Int32 → Int32 → (Nat → Int32) → (Nat → Int32) → (Nat → Int32) → Option (Int32 × Int32 × Int32 × Int32 × (Nat → Int32) × (Nat → Int32) × (Nat → Int32))
  | 0 => fun _ _ _ _ _ _ _ => none
  | n + 1 => p_R_format_38 (pl_R_format_38 n)
def p_R_format_2 (k_2 : Int32 → Int32 → Int32 → Int32 → (Nat → Int32) → (Nat → Int32) → (Nat → Int32) → Option (Int32 × Int32 × Int32 × Int32 × (Nat → Int32) × (Nat → Int32) × (Nat → Int32))) (x1 : Int32) (of : Int32) (op : Int32) (cr : Int32) (dk : Nat → Int32) (mm : Nat → Int32) (us : Nat → Int32) : Option (Int32 × Int32 × Int32 × Int32 × (Nat → Int32) × (Nat → Int32) × (Nat → Int32)) := if 528 ≤ x1 then ((p_R_copyBack op dk mm).bind (fun r_4 => pl_R_format_38 1000 0 0 r_4.1 (-1) dk r_4.2 us)) else (if kx_in x1 528 then (k_2 (x1 + 1) of op cr (upd dk x1.toNatClampNeg 0) mm us) else none)
def pl_R_format_2 : Nat → Int32 → Int32 → Int32 → Int32 → (Nat → Int32) → (Nat → Int32) → (Nat → Int32) → Option (Int32 × Int32 × Int32 × Int32 × (Nat → Int32) × (Nat → Int32) × (Nat → Int32))
  | 0 => fun _ _ _ _ _ _ _ => none
  | n + 1 => p_R_format_2 (pl_R_format_2 n)
def p_R_format (of : Int32) (op : Int32) (cr : Int32) (dk : Nat → Int32) (mm : Nat → Int32) (us : Nat → Int32) : Option (Int32 × Int32 × Int32 × Int32 × (Nat → Int32) × (Nat → Int32) × (Nat → Int32)) := pl_R_format_2 1000 0 of op cr dk mm us

/- Model.crashAfter(I)I -/
def p_R_crashAfter (cr : Int32) (a1 : Int32) : Option (Int32 × Int32) := if 0 ≤ a1 then (some (0, a1)) else (some ((-4), cr))

/- Model.peek(II)I -/
def p_R_peek_36 (dk : Nat → Int32) (z0 : Int32) : Option Int32 := some z0
def p_R_peek_20 (dk : Nat → Int32) : Option Int32 := p_R_peek_36 dk (-4)
def p_R_peek (dk : Nat → Int32) (a1 : Int32) (a2 : Int32) : Option Int32 := if a1 < 0 then (p_R_peek_20 dk) else (if 32 < a1 then (p_R_peek_20 dk) else (if a2 < 0 then (p_R_peek_20 dk) else (if a2 ≤ 15 then (if kx_in ((16 * a1) + a2) 528 then (p_R_peek_36 dk (dk ((16 * a1) + a2).toNatClampNeg)) else none) else (p_R_peek_20 dk))))

/- Model.writes()I -/
def p_R_writes (wn : Int32) : Option Int32 := some wn

/- Model.begin()I -/
def p_R_begin (of : Int32) (op : Int32) : Option (Int32 × Int32) := if of = 0 then (if op = 0 then (some (0, 1)) else (some ((-3), op))) else (some ((-1), op))

/- Model.rollback()I -/
def p_R_rollback_25 (of : Int32) (dk : Nat → Int32) (k_25 : Int32 → Int32 → (Nat → Int32) → (Nat → Int32) → Option (Int32 × Int32 × (Nat → Int32) × (Nat → Int32))) (x1 : Int32) (op : Int32) (mm : Nat → Int32) (de : Nat → Int32) : Option (Int32 × Int32 × (Nat → Int32) × (Nat → Int32)) := if 4 ≤ x1 then (some (0, op, mm, de)) else (if kx_in x1 4 then (k_25 (x1 + 1) op mm (upd de x1.toNatClampNeg (vp_nar .boolean 1))) else none)
def pl_R_rollback_25 (of : Int32) (dk : Nat → Int32) : Nat → Int32 → Int32 → (Nat → Int32) → (Nat → Int32) → Option (Int32 × Int32 × (Nat → Int32) × (Nat → Int32))
  | 0 => fun _ _ _ _ => none
  | n + 1 => p_R_rollback_25 of dk (pl_R_rollback_25 of dk n)
def p_R_rollback (of : Int32) (op : Int32) (dk : Nat → Int32) (mm : Nat → Int32) (de : Nat → Int32) : Option (Int32 × Int32 × (Nat → Int32) × (Nat → Int32)) := if of = 0 then (if op = 0 then (some ((-2), op, mm, de)) else ((p_R_copyBack op dk mm).bind (fun r_5 => pl_R_rollback_25 of dk 1000 0 r_5.1 r_5.2 de))) else (some ((-1), op, mm, de))

/- Model.createTable(I)I -/
def p_R_createTable_55 (of : Int32) (op : Int32) (x1 : Int32) (x2 : Int32) (mm : Nat → Int32) : Option (Int32 × (Nat → Int32)) := if x2 = 5 then (some ((-8), mm)) else (if kx_in x2 256 then (some (x2, upd mm x2.toNatClampNeg x1)) else none)
def p_R_createTable_35 (of : Int32) (op : Int32) (k_35 : Int32 → Int32 → (Nat → Int32) → Option (Int32 × (Nat → Int32))) (x1 : Int32) (x2 : Int32) (mm : Nat → Int32) : Option (Int32 × (Nat → Int32)) := if 5 ≤ x2 then (p_R_createTable_55 of op x1 x2 mm) else (if kx_in x2 256 then (if (mm x2.toNatClampNeg) = 0 then (p_R_createTable_55 of op x1 x2 mm) else (k_35 x1 (x2 + 1) mm)) else none)
def pl_R_createTable_35 (of : Int32) (op : Int32) : Nat → Int32 → Int32 → (Nat → Int32) → Option (Int32 × (Nat → Int32))
  | 0 => fun _ _ _ => none
  | n + 1 => p_R_createTable_35 of op (pl_R_createTable_35 of op n)
def p_R_createTable_20 (of : Int32) (op : Int32) (mm : Nat → Int32) : Option (Int32 × (Nat → Int32)) := some ((-4), mm)
def p_R_createTable (of : Int32) (op : Int32) (mm : Nat → Int32) (a1 : Int32) : Option (Int32 × (Nat → Int32)) := if of = 0 then (if a1 < 2 then (p_R_createTable_20 of op mm) else (if a1 ≤ 6 then (if op = 0 then (some ((-2), mm)) else (pl_R_createTable_35 of op 1000 a1 0 mm)) else (p_R_createTable_20 of op mm))) else (some ((-1), mm))

/- Model.dropTable(I)I -/
def p_R_dropTable_58 (of : Int32) (op : Int32) (tb : Nat → Int32) (k_32 : Int32 → Int32 → (Nat → Int32) → (Nat → Int32) → Option (Int32 × (Nat → Int32) × (Nat → Int32))) (x1 : Int32) (x2 : Int32) (mm : Nat → Int32) (de : Nat → Int32) : Option (Int32 × (Nat → Int32) × (Nat → Int32)) := k_32 x1 (x2 + 1) mm de
def p_R_dropTable_32 (of : Int32) (op : Int32) (tb : Nat → Int32) (k_32 : Int32 → Int32 → (Nat → Int32) → (Nat → Int32) → Option (Int32 × (Nat → Int32) × (Nat → Int32))) (x1 : Int32) (x2 : Int32) (mm : Nat → Int32) (de : Nat → Int32) : Option (Int32 × (Nat → Int32) × (Nat → Int32)) := if 16 ≤ x2 then (if kx_in x1 256 then (if kx_in (8 + x1) 256 then ((p_R_change tb de x1).bind (fun r_4 => some (0, upd (upd mm x1.toNatClampNeg 0) (8 + x1).toNatClampNeg 0, r_4))) else none) else none) else (if kx_in (16 * x2) 256 then (if (mm (16 * x2).toNatClampNeg) = (x1 + 1) then ((p_R_clearPage mm x2).bind (fun r_7 => p_R_dropTable_58 of op tb k_32 x1 x2 r_7 de)) else (p_R_dropTable_58 of op tb k_32 x1 x2 mm de)) else none)
def pl_R_dropTable_32 (of : Int32) (op : Int32) (tb : Nat → Int32) : Nat → Int32 → Int32 → (Nat → Int32) → (Nat → Int32) → Option (Int32 × (Nat → Int32) × (Nat → Int32))
  | 0 => fun _ _ _ _ => none
  | n + 1 => p_R_dropTable_32 of op tb (pl_R_dropTable_32 of op tb n)
def p_R_dropTable (of : Int32) (op : Int32) (mm : Nat → Int32) (tb : Nat → Int32) (de : Nat → Int32) (a1 : Int32) : Option (Int32 × (Nat → Int32) × (Nat → Int32)) := if of = 0 then (if op = 0 then (some ((-2), mm, de)) else ((p_R_noTable mm a1).bind (fun r_10 => if r_10 = 0 then (pl_R_dropTable_32 of op tb 1000 a1 1 mm de) else (some ((-5), mm, de))))) else (some ((-1), mm, de))

/- Model.stage(II)I -/
def p_R_stage_18 (of : Int32) (sg : Nat → Int32) : Option (Int32 × (Nat → Int32)) := some ((-4), sg)
def p_R_stage (of : Int32) (sg : Nat → Int32) (a1 : Int32) (a2 : Int32) : Option (Int32 × (Nat → Int32)) := if of = 0 then (if a1 < 0 then (p_R_stage_18 of sg) else (if a1 ≤ 5 then (if kx_in a1 6 then (some (0, upd sg a1.toNatClampNeg a2)) else none) else (p_R_stage_18 of sg))) else (some ((-1), sg))

/- Model.insert(I)I -/
def p_R_insert_71 (of : Int32) (op : Int32) (sg : Nat → Int32) (tb : Nat → Int32) (k_52 : Int32 → Int32 → Int32 → Int32 → (Nat → Int32) → (Nat → Int32) → Option (Int32 × Int32 × Int32 × (Nat → Int32) × (Nat → Int32))) (k_71 : Int32 → Int32 → Int32 → Int32 → Int32 → (Nat → Int32) → (Nat → Int32) → Option (Int32 × Int32 × Int32 × (Nat → Int32) × (Nat → Int32))) (x1 : Int32) (x3 : Int32) (x4 : Int32) (fp : Int32) (fs : Int32) (mm : Nat → Int32) (de : Nat → Int32) : Option (Int32 × Int32 × Int32 × (Nat → Int32) × (Nat → Int32)) := (p_R_slots mm x1).bind (fun r_1 => if r_1 ≤ x4 then (kl ((16 * x3) + 1 : Int32) (fun v_3 => k_52 x1 v_3 fp fs mm de)) else ((p_R_filled mm x3 x4).bind (fun r_4 => if r_4 = 0 then ((p_R_lay mm sg tb de x1 x3 x4).bind (fun r_6 => some (0, fp, fs, r_6.1, r_6.2))) else (k_71 x1 x3 (x4 + 1) fp fs mm de))))
def pl_R_insert_71 (of : Int32) (op : Int32) (sg : Nat → Int32) (tb : Nat → Int32) (k_52 : Int32 → Int32 → Int32 → Int32 → (Nat → Int32) → (Nat → Int32) → Option (Int32 × Int32 × Int32 × (Nat → Int32) × (Nat → Int32))) : Nat → Int32 → Int32 → Int32 → Int32 → Int32 → (Nat → Int32) → (Nat → Int32) → Option (Int32 × Int32 × Int32 × (Nat → Int32) × (Nat → Int32))
  | 0 => fun _ _ _ _ _ _ _ => none
  | n + 1 => p_R_insert_71 of op sg tb k_52 (pl_R_insert_71 of op sg tb k_52 n)
def p_R_insert_52 (of : Int32) (op : Int32) (sg : Nat → Int32) (tb : Nat → Int32) (k_52 : Int32 → Int32 → Int32 → Int32 → (Nat → Int32) → (Nat → Int32) → Option (Int32 × Int32 × Int32 × (Nat → Int32) × (Nat → Int32))) (x1 : Int32) (x2 : Int32) (fp : Int32) (fs : Int32) (mm : Nat → Int32) (de : Nat → Int32) : Option (Int32 × Int32 × Int32 × (Nat → Int32) × (Nat → Int32)) := if kx_in x2 256 then (if (mm x2.toNatClampNeg) = 0 then ((p_R_freePage mm).bind (fun r_9 => if r_9 = 0 then (some ((-8), fp, fs, mm, de)) else (if kx_in x2 256 then (if kx_in (16 * r_9) 256 then ((p_R_lay (upd (upd mm x2.toNatClampNeg r_9) (16 * r_9).toNatClampNeg (x1 + 1)) sg tb de x1 r_9 0).bind (fun r_13 => some (0, fp, fs, r_13.1, r_13.2))) else none) else none))) else (if kx_in x2 256 then (kl (mm x2.toNatClampNeg : Int32) (fun v_15 => pl_R_insert_71 of op sg tb k_52 1000 x1 v_15 0 fp fs mm de)) else none)) else none
def pl_R_insert_52 (of : Int32) (op : Int32) (sg : Nat → Int32) (tb : Nat → Int32) : Nat → Int32 → Int32 → Int32 → Int32 → (Nat → Int32) → (Nat → Int32) → Option (Int32 × Int32 × Int32 × (Nat → Int32) × (Nat → Int32))
  | 0 => fun _ _ _ _ _ _ => none
  | n + 1 => p_R_insert_52 of op sg tb (pl_R_insert_52 of op sg tb n)
def p_R_insert (of : Int32) (op : Int32) (fp : Int32) (fs : Int32) (mm : Nat → Int32) (sg : Nat → Int32) (tb : Nat → Int32) (de : Nat → Int32) (a1 : Int32) : Option (Int32 × Int32 × Int32 × (Nat → Int32) × (Nat → Int32)) := if of = 0 then (if op = 0 then (some ((-2), fp, fs, mm, de)) else ((p_R_noTable mm a1).bind (fun r_18 => if r_18 = 0 then (if kx_in 0 6 then ((p_R_seek fp fs mm a1 (sg (0 : Int32).toNatClampNeg)).bind (fun r_21 => if r_21.1 < 0 then (kl (8 + a1 : Int32) (fun v_23 => pl_R_insert_52 of op sg tb 1000 a1 v_23 r_21.2.1 r_21.2.2 mm de)) else (some ((-7), r_21.2.1, r_21.2.2, mm, de)))) else none) else (some ((-5), fp, fs, mm, de))))) else (some ((-1), fp, fs, mm, de))

/- Model.deleteKey(II)I -/
def p_R_deleteKey_158 (of : Int32) (op : Int32) (tb : Nat → Int32) (x1 : Int32) (fp : Int32) (fs : Int32) (mm : Nat → Int32) (de : Nat → Int32) : Option (Int32 × Int32 × Int32 × (Nat → Int32) × (Nat → Int32)) := (p_R_change tb de x1).bind (fun r_1 => some (0, fp, fs, mm, r_1))
def p_R_deleteKey_53 (of : Int32) (op : Int32) (tb : Nat → Int32) (k_53 : Int32 → Int32 → Int32 → Int32 → Int32 → Int32 → (Nat → Int32) → (Nat → Int32) → Option (Int32 × Int32 × Int32 × (Nat → Int32) × (Nat → Int32))) (x1 : Int32) (x3 : Int32) (x4 : Int32) (x5 : Int32) (fp : Int32) (fs : Int32) (mm : Nat → Int32) (de : Nat → Int32) : Option (Int32 × Int32 × Int32 × (Nat → Int32) × (Nat → Int32)) := if kx_in x1 256 then (if (mm x1.toNatClampNeg) ≤ x5 then (if kx_in ((16 * x4) + 2) 256 then (if kx_in ((16 * x4) + 2) 256 then (if kx_in ((16 * x4) + 2) 256 then (if ((upd mm ((16 * x4) + 2).toNatClampNeg ((mm ((16 * x4) + 2).toNatClampNeg) &&& (((1 : Int32) <<< (fs &&& 31)) ^^^ (-1)))) ((16 * x4) + 2).toNatClampNeg) = 0 then ((p_R_leads (upd mm ((16 * x4) + 2).toNatClampNeg ((mm ((16 * x4) + 2).toNatClampNeg) &&& (((1 : Int32) <<< (fs &&& 31)) ^^^ (-1)))) x1 x4).bind (fun r_8 => if kx_in ((16 * x4) + 1) 256 then (if kx_in r_8 256 then ((p_R_clearPage (upd (upd mm ((16 * x4) + 2).toNatClampNeg ((mm ((16 * x4) + 2).toNatClampNeg) &&& (((1 : Int32) <<< (fs &&& 31)) ^^^ (-1)))) r_8.toNatClampNeg ((upd mm ((16 * x4) + 2).toNatClampNeg ((mm ((16 * x4) + 2).toNatClampNeg) &&& (((1 : Int32) <<< (fs &&& 31)) ^^^ (-1)))) ((16 * x4) + 1).toNatClampNeg)) x4).bind (fun r_11 => p_R_deleteKey_158 of op tb x1 fp fs r_11 de)) else none) else none)) else (p_R_deleteKey_158 of op tb x1 fp fs (upd mm ((16 * x4) + 2).toNatClampNeg ((mm ((16 * x4) + 2).toNatClampNeg) &&& (((1 : Int32) <<< (fs &&& 31)) ^^^ (-1)))) de)) else none) else none) else none) else (if kx_in (x3 + x5) 256 then (k_53 x1 x3 x4 (x5 + 1) fp fs (upd mm (x3 + x5).toNatClampNeg 0) de) else none)) else none
def pl_R_deleteKey_53 (of : Int32) (op : Int32) (tb : Nat → Int32) : Nat → Int32 → Int32 → Int32 → Int32 → Int32 → Int32 → (Nat → Int32) → (Nat → Int32) → Option (Int32 × Int32 × Int32 × (Nat → Int32) × (Nat → Int32))
  | 0 => fun _ _ _ _ _ _ _ _ => none
  | n + 1 => p_R_deleteKey_53 of op tb (pl_R_deleteKey_53 of op tb n)
def p_R_deleteKey (of : Int32) (op : Int32) (fp : Int32) (fs : Int32) (mm : Nat → Int32) (tb : Nat → Int32) (de : Nat → Int32) (a1 : Int32) (a2 : Int32) : Option (Int32 × Int32 × Int32 × (Nat → Int32) × (Nat → Int32)) := if of = 0 then (if op = 0 then (some ((-2), fp, fs, mm, de)) else ((p_R_noTable mm a1).bind (fun r_15 => if r_15 = 0 then ((p_R_seek fp fs mm a1 a2).bind (fun r_17 => if 0 ≤ r_17.1 then (pl_R_deleteKey_53 of op tb 1000 a1 r_17.1 r_17.2.1 0 r_17.2.1 r_17.2.2 mm de) else (some ((-6), r_17.2.1, r_17.2.2, mm, de)))) else (some ((-5), fp, fs, mm, de))))) else (some ((-1), fp, fs, mm, de))

/- Model.updateCol(IIII)I -/
def p_R_updateCol_45 (of : Int32) (op : Int32) (tb : Nat → Int32) (fp : Int32) (fs : Int32) (mm : Nat → Int32) (de : Nat → Int32) : Option (Int32 × Int32 × Int32 × (Nat → Int32) × (Nat → Int32)) := some ((-4), fp, fs, mm, de)
def p_R_updateCol (of : Int32) (op : Int32) (fp : Int32) (fs : Int32) (mm : Nat → Int32) (tb : Nat → Int32) (de : Nat → Int32) (a1 : Int32) (a2 : Int32) (a3 : Int32) (a4 : Int32) : Option (Int32 × Int32 × Int32 × (Nat → Int32) × (Nat → Int32)) := if of = 0 then (if op = 0 then (some ((-2), fp, fs, mm, de)) else ((p_R_noTable mm a1).bind (fun r_3 => if r_3 = 0 then (if a3 < 1 then (p_R_updateCol_45 of op tb fp fs mm de) else (if kx_in a1 256 then (if a3 < (mm a1.toNatClampNeg) then ((p_R_seek fp fs mm a1 a2).bind (fun r_8 => if 0 ≤ r_8.1 then (if kx_in (r_8.1 + a3) 256 then ((p_R_change tb de a1).bind (fun r_11 => some (0, r_8.2.1, r_8.2.2, upd mm (r_8.1 + a3).toNatClampNeg a4, r_11))) else none) else (some ((-6), r_8.2.1, r_8.2.2, mm, de)))) else (p_R_updateCol_45 of op tb fp fs mm de)) else none)) else (some ((-5), fp, fs, mm, de))))) else (some ((-1), fp, fs, mm, de))

/- Model.lookup(III)I -/
def p_R_lookup_57 (of : Int32) (mm : Nat → Int32) (z0 : Int32) (fp : Int32) (fs : Int32) : Option (Int32 × Int32 × Int32) := some (z0, fp, fs)
def p_R_lookup_29 (of : Int32) (mm : Nat → Int32) (fp : Int32) (fs : Int32) : Option (Int32 × Int32 × Int32) := some (0, fp, fs)
def p_R_lookup (of : Int32) (fp : Int32) (fs : Int32) (mm : Nat → Int32) (a1 : Int32) (a2 : Int32) (a3 : Int32) : Option (Int32 × Int32 × Int32) := if of = 0 then ((p_R_noTable mm a1).bind (fun r_2 => if r_2 = 0 then (if a3 < 0 then (p_R_lookup_29 of mm fp fs) else (if kx_in a1 256 then (if a3 < (mm a1.toNatClampNeg) then ((p_R_seek fp fs mm a1 a2).bind (fun r_7 => if 0 ≤ r_7.1 then (if kx_in (r_7.1 + a3) 256 then (p_R_lookup_57 of mm (mm (r_7.1 + a3).toNatClampNeg) r_7.2.1 r_7.2.2) else none) else (p_R_lookup_57 of mm 0 r_7.2.1 r_7.2.2))) else (p_R_lookup_29 of mm fp fs)) else none)) else (p_R_lookup_29 of mm fp fs))) else (p_R_lookup_29 of mm fp fs)

/- Model.has(II)Z -/
def p_R_has_29 (of : Int32) (mm : Nat → Int32) (z0 : Int32) (fp : Int32) (fs : Int32) : Option (Int32 × Int32 × Int32) := if z0 &&& 1 = z0 then (some (z0, fp, fs)) else none
def p_R_has_28 (of : Int32) (mm : Nat → Int32) (fp : Int32) (fs : Int32) : Option (Int32 × Int32 × Int32) := p_R_has_29 of mm 0 fp fs
def p_R_has (of : Int32) (fp : Int32) (fs : Int32) (mm : Nat → Int32) (a1 : Int32) (a2 : Int32) : Option (Int32 × Int32 × Int32) := if of = 0 then ((p_R_noTable mm a1).bind (fun r_3 => if r_3 = 0 then ((p_R_seek fp fs mm a1 a2).bind (fun r_5 => if r_5.1 < 0 then (p_R_has_28 of mm r_5.2.1 r_5.2.2) else (p_R_has_29 of mm 1 r_5.2.1 r_5.2.2))) else (p_R_has_28 of mm fp fs))) else (p_R_has_28 of mm fp fs)

/- Model.count(I)I -/
def p_R_count_65 (of : Int32) (mm : Nat → Int32) (k_24 : Int32 → Int32 → Int32 → Option Int32) (x1 : Int32) (x3 : Int32) (z0 : Int32) : Option Int32 := k_24 x1 z0 (x3 + 1)
def p_R_count_24 (of : Int32) (mm : Nat → Int32) (k_24 : Int32 → Int32 → Int32 → Option Int32) (x1 : Int32) (x2 : Int32) (x3 : Int32) : Option Int32 := if 16 ≤ x3 then (some x2) else (if kx_in (16 * x3) 256 then (if (mm (16 * x3).toNatClampNeg) = (x1 + 1) then (if kx_in ((16 * x3) + 2) 256 then ((p_R_bits (mm ((16 * x3) + 2).toNatClampNeg)).bind (fun r_5 => p_R_count_65 of mm k_24 x1 x3 (x2 + r_5))) else none) else (p_R_count_65 of mm k_24 x1 x3 x2)) else none)
def pl_R_count_24 (of : Int32) (mm : Nat → Int32) : Nat → Int32 → Int32 → Int32 → Option Int32
  | 0 => fun _ _ _ => none
  | n + 1 => p_R_count_24 of mm (pl_R_count_24 of mm n)
def p_R_count (of : Int32) (mm : Nat → Int32) (a1 : Int32) : Option Int32 := if of = 0 then ((p_R_noTable mm a1).bind (fun r_7 => if r_7 = 0 then (pl_R_count_24 of mm 1000 a1 0 1) else (some (-5)))) else (some (-1))

/- Model.openScan(IIII)I -/
def p_R_openScan_62 (of : Int32) (mm : Nat → Int32) (x1 : Int32) (x2 : Int32) (x3 : Int32) (x4 : Int32) (x5 : Int32) (tb : Nat → Int32) (cs : Nat → Int32) (lw : Nat → Int32) (hg : Nat → Int32) (us : Nat → Int32) (de : Nat → Int32) (sa : Nat → Int32) : Option (Int32 × (Nat → Int32) × (Nat → Int32) × (Nat → Int32) × (Nat → Int32) × (Nat → Int32) × (Nat → Int32) × (Nat → Int32)) := if x5 = 4 then (some ((-8), tb, cs, lw, hg, us, de, sa)) else (if kx_in x5 4 then (if kx_in x5 4 then (if kx_in x5 4 then (if kx_in x5 4 then (if kx_in x5 4 then (if kx_in x5 4 then (if kx_in x5 4 then (some (x5, upd tb x5.toNatClampNeg x1, upd cs x5.toNatClampNeg x2, upd lw x5.toNatClampNeg x3, upd hg x5.toNatClampNeg x4, upd us x5.toNatClampNeg (vp_nar .boolean 1), upd de x5.toNatClampNeg (vp_nar .boolean 0), upd sa x5.toNatClampNeg 0)) else none) else none) else none) else none) else none) else none) else none)
def p_R_openScan_40 (of : Int32) (mm : Nat → Int32) (k_40 : Int32 → Int32 → Int32 → Int32 → Int32 → (Nat → Int32) → (Nat → Int32) → (Nat → Int32) → (Nat → Int32) → (Nat → Int32) → (Nat → Int32) → (Nat → Int32) → Option (Int32 × (Nat → Int32) × (Nat → Int32) × (Nat → Int32) × (Nat → Int32) × (Nat → Int32) × (Nat → Int32) × (Nat → Int32))) (x1 : Int32) (x2 : Int32) (x3 : Int32) (x4 : Int32) (x5 : Int32) (tb : Nat → Int32) (cs : Nat → Int32) (lw : Nat → Int32) (hg : Nat → Int32) (us : Nat → Int32) (de : Nat → Int32) (sa : Nat → Int32) : Option (Int32 × (Nat → Int32) × (Nat → Int32) × (Nat → Int32) × (Nat → Int32) × (Nat → Int32) × (Nat → Int32) × (Nat → Int32)) := if 4 ≤ x5 then (p_R_openScan_62 of mm x1 x2 x3 x4 x5 tb cs lw hg us de sa) else (if kx_in x5 4 then (if (us x5.toNatClampNeg) = 0 then (p_R_openScan_62 of mm x1 x2 x3 x4 x5 tb cs lw hg us de sa) else (k_40 x1 x2 x3 x4 (x5 + 1) tb cs lw hg us de sa)) else none)
def pl_R_openScan_40 (of : Int32) (mm : Nat → Int32) : Nat → Int32 → Int32 → Int32 → Int32 → Int32 → (Nat → Int32) → (Nat → Int32) → (Nat → Int32) → (Nat → Int32) → (Nat → Int32) → (Nat → Int32) → (Nat → Int32) → Option (Int32 × (Nat → Int32) × (Nat → Int32) × (Nat → Int32) × (Nat → Int32) × (Nat → Int32) × (Nat → Int32) × (Nat → Int32))
  | 0 => fun _ _ _ _ _ _ _ _ _ _ _ _ => none
  | n + 1 => p_R_openScan_40 of mm (pl_R_openScan_40 of mm n)
def p_R_openScan_34 (of : Int32) (mm : Nat → Int32) (tb : Nat → Int32) (cs : Nat → Int32) (lw : Nat → Int32) (hg : Nat → Int32) (us : Nat → Int32) (de : Nat → Int32) (sa : Nat → Int32) : Option (Int32 × (Nat → Int32) × (Nat → Int32) × (Nat → Int32) × (Nat → Int32) × (Nat → Int32) × (Nat → Int32) × (Nat → Int32)) := some ((-4), tb, cs, lw, hg, us, de, sa)
def p_R_openScan (of : Int32) (mm : Nat → Int32) (tb : Nat → Int32) (cs : Nat → Int32) (lw : Nat → Int32) (hg : Nat → Int32) (us : Nat → Int32) (de : Nat → Int32) (sa : Nat → Int32) (a1 : Int32) (a2 : Int32) (a3 : Int32) (a4 : Int32) : Option (Int32 × (Nat → Int32) × (Nat → Int32) × (Nat → Int32) × (Nat → Int32) × (Nat → Int32) × (Nat → Int32) × (Nat → Int32)) := if of = 0 then ((p_R_noTable mm a1).bind (fun r_13 => if r_13 = 0 then (if a2 < 0 then (p_R_openScan_34 of mm tb cs lw hg us de sa) else (if kx_in a1 256 then (if a2 < (mm a1.toNatClampNeg) then (pl_R_openScan_40 of mm 1000 a1 a2 a3 a4 0 tb cs lw hg us de sa) else (p_R_openScan_34 of mm tb cs lw hg us de sa)) else none)) else (some ((-5), tb, cs, lw, hg, us, de, sa)))) else (some ((-1), tb, cs, lw, hg, us, de, sa))

/- Model.seekNext(I)Z -/
def p_R_seekNext_207 (mm : Nat → Int32) (tb : Nat → Int32) (cs : Nat → Int32) (lw : Nat → Int32) (hg : Nat → Int32) (sa : Nat → Int32) (x3 : Int32) (z0 : Int32) (z1 : Int32) (ky : Nat → Int32) : Option (Int32 × (Nat → Int32)) := if kx_in z1 4 then (if x3 &&& 1 = x3 then (some (x3, upd ky z1.toNatClampNeg z0)) else none) else none
def p_R_seekNext_181 (mm : Nat → Int32) (tb : Nat → Int32) (cs : Nat → Int32) (lw : Nat → Int32) (hg : Nat → Int32) (sa : Nat → Int32) (k_15 : Int32 → Int32 → Int32 → Int32 → Int32 → (Nat → Int32) → Option (Int32 × (Nat → Int32))) (x1 : Int32) (x2 : Int32) (x3 : Int32) (x4 : Int32) (x5 : Int32) (ky : Nat → Int32) : Option (Int32 × (Nat → Int32)) := k_15 x1 x2 x3 x4 (x5 + 1) ky
def p_R_seekNext_175 (mm : Nat → Int32) (tb : Nat → Int32) (cs : Nat → Int32) (lw : Nat → Int32) (hg : Nat → Int32) (sa : Nat → Int32) (k_15 : Int32 → Int32 → Int32 → Int32 → Int32 → (Nat → Int32) → Option (Int32 × (Nat → Int32))) (k_41 : Int32 → Int32 → Int32 → Int32 → Int32 → Int32 → (Nat → Int32) → Option (Int32 × (Nat → Int32))) (x1 : Int32) (x2 : Int32) (x3 : Int32) (x4 : Int32) (x5 : Int32) (x6 : Int32) (ky : Nat → Int32) : Option (Int32 × (Nat → Int32)) := k_41 x1 x2 x3 x4 x5 (x6 + 1) ky
def p_R_seekNext_164 (mm : Nat → Int32) (tb : Nat → Int32) (cs : Nat → Int32) (lw : Nat → Int32) (hg : Nat → Int32) (sa : Nat → Int32) (k_15 : Int32 → Int32 → Int32 → Int32 → Int32 → (Nat → Int32) → Option (Int32 × (Nat → Int32))) (k_41 : Int32 → Int32 → Int32 → Int32 → Int32 → Int32 → (Nat → Int32) → Option (Int32 × (Nat → Int32))) (x1 : Int32) (x2 : Int32) (x5 : Int32) (x6 : Int32) (x7 : Int32) (ky : Nat → Int32) : Option (Int32 × (Nat → Int32)) := if kx_in x7 256 then (kl (mm x7.toNatClampNeg : Int32) (fun v_4 => p_R_seekNext_175 mm tb cs lw hg sa k_15 k_41 x1 x2 1 v_4 x5 x6 ky)) else none
def p_R_seekNext_141 (mm : Nat → Int32) (tb : Nat → Int32) (cs : Nat → Int32) (lw : Nat → Int32) (hg : Nat → Int32) (sa : Nat → Int32) (k_15 : Int32 → Int32 → Int32 → Int32 → Int32 → (Nat → Int32) → Option (Int32 × (Nat → Int32))) (k_41 : Int32 → Int32 → Int32 → Int32 → Int32 → Int32 → (Nat → Int32) → Option (Int32 × (Nat → Int32))) (x1 : Int32) (x2 : Int32) (x3 : Int32) (x4 : Int32) (x5 : Int32) (x6 : Int32) (x7 : Int32) (z0 : Int32) (ky : Nat → Int32) : Option (Int32 × (Nat → Int32)) := if z0 = 0 then (p_R_seekNext_175 mm tb cs lw hg sa k_15 k_41 x1 x2 x3 x4 x5 x6 ky) else (if x3 = 0 then (p_R_seekNext_164 mm tb cs lw hg sa k_15 k_41 x1 x2 x5 x6 x7 ky) else (if kx_in x7 256 then (if x4 ≤ (mm x7.toNatClampNeg) then (p_R_seekNext_175 mm tb cs lw hg sa k_15 k_41 x1 x2 x3 x4 x5 x6 ky) else (p_R_seekNext_164 mm tb cs lw hg sa k_15 k_41 x1 x2 x5 x6 x7 ky)) else none))
def p_R_seekNext_140 (mm : Nat → Int32) (tb : Nat → Int32) (cs : Nat → Int32) (lw : Nat → Int32) (hg : Nat → Int32) (sa : Nat → Int32) (k_15 : Int32 → Int32 → Int32 → Int32 → Int32 → (Nat → Int32) → Option (Int32 × (Nat → Int32))) (k_41 : Int32 → Int32 → Int32 → Int32 → Int32 → Int32 → (Nat → Int32) → Option (Int32 × (Nat → Int32))) (x1 : Int32) (x2 : Int32) (x3 : Int32) (x4 : Int32) (x5 : Int32) (x6 : Int32) (x7 : Int32) (ky : Nat → Int32) : Option (Int32 × (Nat → Int32)) := p_R_seekNext_141 mm tb cs lw hg sa k_15 k_41 x1 x2 x3 x4 x5 x6 x7 0 ky
def p_R_seekNext_136 (mm : Nat → Int32) (tb : Nat → Int32) (cs : Nat → Int32) (lw : Nat → Int32) (hg : Nat → Int32) (sa : Nat → Int32) (k_15 : Int32 → Int32 → Int32 → Int32 → Int32 → (Nat → Int32) → Option (Int32 × (Nat → Int32))) (k_41 : Int32 → Int32 → Int32 → Int32 → Int32 → Int32 → (Nat → Int32) → Option (Int32 × (Nat → Int32))) (x1 : Int32) (x2 : Int32) (x3 : Int32) (x4 : Int32) (x5 : Int32) (x6 : Int32) (x7 : Int32) (ky : Nat → Int32) : Option (Int32 × (Nat → Int32)) := p_R_seekNext_141 mm tb cs lw hg sa k_15 k_41 x1 x2 x3 x4 x5 x6 x7 1 ky
def p_R_seekNext_41 (mm : Nat → Int32) (tb : Nat → Int32) (cs : Nat → Int32) (lw : Nat → Int32) (hg : Nat → Int32) (sa : Nat → Int32) (k_15 : Int32 → Int32 → Int32 → Int32 → Int32 → (Nat → Int32) → Option (Int32 × (Nat → Int32))) (k_41 : Int32 → Int32 → Int32 → Int32 → Int32 → Int32 → (Nat → Int32) → Option (Int32 × (Nat → Int32))) (x1 : Int32) (x2 : Int32) (x3 : Int32) (x4 : Int32) (x5 : Int32) (x6 : Int32) (ky : Nat → Int32) : Option (Int32 × (Nat → Int32)) := (p_R_slots mm x2).bind (fun r_9 => if r_9 ≤ x6 then (p_R_seekNext_181 mm tb cs lw hg sa k_15 x1 x2 x3 x4 x5 ky) else ((p_R_wordOf mm x2 x5 x6).bind (fun r_11 => if kx_in x1 4 then (if kx_in (r_11 + (cs x1.toNatClampNeg)) 256 then (kl (mm (r_11 + (cs x1.toNatClampNeg)).toNatClampNeg : Int32) (fun v_14 => (p_R_filled mm x5 x6).bind (fun r_15 => if r_15 = 0 then (p_R_seekNext_140 mm tb cs lw hg sa k_15 k_41 x1 x2 x3 x4 x5 x6 r_11 ky) else (if kx_in x1 4 then (if v_14 < (lw x1.toNatClampNeg) then (p_R_seekNext_140 mm tb cs lw hg sa k_15 k_41 x1 x2 x3 x4 x5 x6 r_11 ky) else (if kx_in x1 4 then (if (hg x1.toNatClampNeg) < v_14 then (p_R_seekNext_140 mm tb cs lw hg sa k_15 k_41 x1 x2 x3 x4 x5 x6 r_11 ky) else (if kx_in x1 4 then (if (sa x1.toNatClampNeg) = 0 then (p_R_seekNext_136 mm tb cs lw hg sa k_15 k_41 x1 x2 x3 x4 x5 x6 r_11 ky) else (if kx_in r_11 256 then (if kx_in x1 4 then (if (mm r_11.toNatClampNeg) ≤ (ky x1.toNatClampNeg) then (p_R_seekNext_140 mm tb cs lw hg sa k_15 k_41 x1 x2 x3 x4 x5 x6 r_11 ky) else (p_R_seekNext_136 mm tb cs lw hg sa k_15 k_41 x1 x2 x3 x4 x5 x6 r_11 ky)) else none) else none)) else none)) else none)) else none)))) else none) else none)))
def pl_R_seekNext_41 (mm : Nat → Int32) (tb : Nat → Int32) (cs : Nat → Int32) (lw : Nat → Int32) (hg : Nat → Int32) (sa : Nat → Int32) (k_15 : Int32 → Int32 → Int32 → Int32 → Int32 → (Nat → Int32) → Option (Int32 × (Nat → Int32))) : Nat → Int32 → Int32 → Int32 → Int32 → Int32 → Int32 → (Nat → Int32) → Option (Int32 × (Nat → Int32))
  | 0 => fun _ _ _ _ _ _ _ => none
  | n + 1 => p_R_seekNext_41 mm tb cs lw hg sa k_15 (pl_R_seekNext_41 mm tb cs lw hg sa k_15 n)
def p_R_seekNext_15 (mm : Nat → Int32) (tb : Nat → Int32) (cs : Nat → Int32) (lw : Nat → Int32) (hg : Nat → Int32) (sa : Nat → Int32) (k_15 : Int32 → Int32 → Int32 → Int32 → Int32 → (Nat → Int32) → Option (Int32 × (Nat → Int32))) (x1 : Int32) (x2 : Int32) (x3 : Int32) (x4 : Int32) (x5 : Int32) (ky : Nat → Int32) : Option (Int32 × (Nat → Int32)) := if 16 ≤ x5 then (if x3 = 0 then (if kx_in x1 4 then (p_R_seekNext_207 mm tb cs lw hg sa x3 (ky x1.toNatClampNeg) x1 ky) else none) else (p_R_seekNext_207 mm tb cs lw hg sa x3 x4 x1 ky)) else (if kx_in (16 * x5) 256 then (if (mm (16 * x5).toNatClampNeg) = (x2 + 1) then (pl_R_seekNext_41 mm tb cs lw hg sa k_15 1000 x1 x2 x3 x4 x5 0 ky) else (p_R_seekNext_181 mm tb cs lw hg sa k_15 x1 x2 x3 x4 x5 ky)) else none)
def pl_R_seekNext_15 (mm : Nat → Int32) (tb : Nat → Int32) (cs : Nat → Int32) (lw : Nat → Int32) (hg : Nat → Int32) (sa : Nat → Int32) : Nat → Int32 → Int32 → Int32 → Int32 → Int32 → (Nat → Int32) → Option (Int32 × (Nat → Int32))
  | 0 => fun _ _ _ _ _ _ => none
  | n + 1 => p_R_seekNext_15 mm tb cs lw hg sa (pl_R_seekNext_15 mm tb cs lw hg sa n)
def p_R_seekNext (mm : Nat → Int32) (tb : Nat → Int32) (cs : Nat → Int32) (lw : Nat → Int32) (hg : Nat → Int32) (sa : Nat → Int32) (ky : Nat → Int32) (a1 : Int32) : Option (Int32 × (Nat → Int32)) := if kx_in a1 4 then (kl (tb a1.toNatClampNeg : Int32) (fun v_32 => pl_R_seekNext_15 mm tb cs lw hg sa 1000 a1 v_32 0 0 1 ky)) else none

/- Model.next(I)Z -/
def p_R_next_49 (of : Int32) (mm : Nat → Int32) (tb : Nat → Int32) (cs : Nat → Int32) (lw : Nat → Int32) (hg : Nat → Int32) (us : Nat → Int32) (de : Nat → Int32) (x2 : Int32) (z0 : Int32) (z1 : Int32) (sa : Nat → Int32) (ky : Nat → Int32) : Option (Int32 × (Nat → Int32) × (Nat → Int32)) := if kx_in z1 4 then (if x2 &&& 1 = x2 then (some (x2, upd sa z1.toNatClampNeg z0, ky)) else none) else none
def p_R_next_27 (of : Int32) (mm : Nat → Int32) (tb : Nat → Int32) (cs : Nat → Int32) (lw : Nat → Int32) (hg : Nat → Int32) (us : Nat → Int32) (de : Nat → Int32) (sa : Nat → Int32) (ky : Nat → Int32) : Option (Int32 × (Nat → Int32) × (Nat → Int32)) := some (0, sa, ky)
def p_R_next (of : Int32) (mm : Nat → Int32) (tb : Nat → Int32) (cs : Nat → Int32) (lw : Nat → Int32) (hg : Nat → Int32) (us : Nat → Int32) (de : Nat → Int32) (sa : Nat → Int32) (ky : Nat → Int32) (a1 : Int32) : Option (Int32 × (Nat → Int32) × (Nat → Int32)) := (p_R_noScan of us a1).bind (fun r_3 => if r_3 = 0 then (if kx_in a1 4 then (if (de a1.toNatClampNeg) = 0 then (if kx_in a1 4 then (if (sa a1.toNatClampNeg) = 2 then (p_R_next_27 of mm tb cs lw hg us de sa ky) else ((p_R_seekNext mm tb cs lw hg sa ky a1).bind (fun r_9 => if r_9.1 = 0 then (p_R_next_49 of mm tb cs lw hg us de r_9.1 2 a1 sa r_9.2) else (p_R_next_49 of mm tb cs lw hg us de r_9.1 1 a1 sa r_9.2)))) else none) else (p_R_next_27 of mm tb cs lw hg us de sa ky)) else none) else (p_R_next_27 of mm tb cs lw hg us de sa ky))

/- Model.col(II)I -/
def p_R_col_46 (of : Int32) (mm : Nat → Int32) (tb : Nat → Int32) (us : Nat → Int32) (de : Nat → Int32) (sa : Nat → Int32) (ky : Nat → Int32) (fp : Int32) (fs : Int32) : Option (Int32 × Int32 × Int32) := some (0, fp, fs)
def p_R_col (of : Int32) (fp : Int32) (fs : Int32) (mm : Nat → Int32) (tb : Nat → Int32) (us : Nat → Int32) (de : Nat → Int32) (sa : Nat → Int32) (ky : Nat → Int32) (a1 : Int32) (a2 : Int32) : Option (Int32 × Int32 × Int32) := (p_R_noScan of us a1).bind (fun r_1 => if r_1 = 0 then (if kx_in a1 4 then (if (de a1.toNatClampNeg) = 0 then (if kx_in a1 4 then (if (sa a1.toNatClampNeg) = 1 then (if a2 < 0 then (p_R_col_46 of mm tb us de sa ky fp fs) else (if kx_in a1 4 then (if kx_in (tb a1.toNatClampNeg) 256 then (if a2 < (mm (tb a1.toNatClampNeg).toNatClampNeg) then (if kx_in a1 4 then (if kx_in a1 4 then ((p_R_seek fp fs mm (tb a1.toNatClampNeg) (ky a1.toNatClampNeg)).bind (fun r_13 => if kx_in (r_13.1 + a2) 256 then (some (mm (r_13.1 + a2).toNatClampNeg, r_13.2.1, r_13.2.2)) else none)) else none) else none) else (p_R_col_46 of mm tb us de sa ky fp fs)) else none) else none)) else (p_R_col_46 of mm tb us de sa ky fp fs)) else none) else (p_R_col_46 of mm tb us de sa ky fp fs)) else none) else (p_R_col_46 of mm tb us de sa ky fp fs))

/- Model.closeScan(I)I -/
def p_R_closeScan (of : Int32) (us : Nat → Int32) (a1 : Int32) : Option (Int32 × (Nat → Int32)) := if of = 0 then ((p_R_noScan of us a1).bind (fun r_2 => if r_2 = 0 then (if kx_in a1 4 then (some (0, upd us a1.toNatClampNeg (vp_nar .boolean 0))) else none) else (some ((-9), us)))) else (some ((-1), us))

