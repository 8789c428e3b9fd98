/-! A small machine: ints, references by number, arrays of ints and of chars, objects as lists of fields; one heap as a list of cells. -/
abbrev mC : Type := (Bool × Nat × (Nat → Int32)) ⊕ (Nat × List Value)
abbrev mH : Type := List mC × Nat
abbrev mL : Type := List (Option Value)
abbrev mR : Type := Option Value × mH
abbrev mX : Type := Nat × (Nat → Int32)
abbrev mG : Type := Nat → Nat → mL → List Value → mH → Option mR
def m_get (h : mH) (a : Nat) : Option mC := h.1[a]?
def m_set (h : mH) (a : Nat) (c : mC) : mH := (h.1.set a c, h.2)
def m_new (h : mH) (c : mC) (n : Nat) : mH := (h.1 ++ [c], h.2 + n)
def m_isref : Value → Bool
  | .ref _ => true
  | .float _ => true
  | _ => false
def m_isint : Value → Bool
  | .int _ => true
  | _ => false
def m_c1 : Value → Bool
  | .int _ => true
  | .ref _ => true
  | .float _ => true
  | _ => false
def m_fit (ty : FieldType) (v : Value) : Bool :=
  match ty, v with
  | .int, .int _ => true
  | .boolean, .int x => decide (x = 0) || decide (x = 1)
  | .object _, .ref _ => true
  | .array _, .ref _ => true
  | _, _ => false
def m_cb (c : Jvm.ClassFile.Cond) (x y : Int32) : Bool :=
  match c with
  | .eq => decide (x = y)
  | .ne => decide (¬ x = y)
  | .lt => decide (x < y)
  | .ge => decide (y ≤ x)
  | .gt => decide (y < x)
  | .le => decide (x ≤ y)
def m_ldl (L : mL) (i : Nat) : Option Value :=
  match L[i]? with
  | some (some v) => some v
  | _ => none
def m_entry (j : Nat) (as : List Value) : mL := as.map some ++ List.replicate (m_nl j - as.length) none
def m_df (ci : Nat) : List Value := (m_tys[ci]?.getD []).map defaultValue
def m_jump (go : mG) (j pc : Nat) (off : Int) (L : mL) (st : List Value) (h : mH) : Option mR :=
  if 0 ≤ (pc : Int) + off then go j ((pc : Int) + off).toNat L st h else none
def m_cond (go : mG) (j pc len : Nat) (t : Bool) (off : Int) (L : mL) (st : List Value) (h : mH) : Option mR :=
  if len = 3 ∧ 0 ≤ (pc : Int) + off then (if t = true then go j ((pc : Int) + off).toNat L st h else go j (pc + 3) L st h) else none
def m_load (go : mG) (p : Value → Bool) (j pc len want i : Nat) (L : mL) (st : List Value) (h : mH) : Option mR :=
  if len = want then
    match m_ldl L i with
    | some v => if p v = true then go j (pc + want) L (v :: st) h else none
    | none => none
  else none
def m_store (go : mG) (p : Value → Bool) (j pc len want i : Nat) (L : mL) (st : List Value) (h : mH) : Option mR :=
  if len = want then
    match st with
    | v :: r => if p v = true ∧ i < L.length then go j (pc + want) (L.set i (some v)) r h else none
    | [] => none
  else none
def m_push (go : mG) (j pc len want : Nat) (v : Int32) (L : mL) (st : List Value) (h : mH) : Option mR :=
  if len = want then go j (pc + want) L (.int v :: st) h else none
def m_bin (go : mG) (j pc len : Nat) (f : Int32 → Int32 → Int32) (ok : Int32 → Bool) (L : mL) (st : List Value) (h : mH) : Option mR :=
  match st with
  | .int y :: .int x :: r => if len = 1 ∧ ok y = true then go j (pc + 1) L (.int (f x y) :: r) h else none
  | _ => none
def m_iinc (go : mG) (j pc len i : Nat) (c : Int) (L : mL) (st : List Value) (h : mH) : Option mR :=
  match m_ldl L i with
  | some (.int x) => if len = 3 ∧ i < L.length then go j (pc + 3) (L.set i (some (.int (x + Int32.ofInt c)))) st h else none
  | _ => none
def m_tsw (go : mG) (j pc : Nat) (d lo hi : Int) (offs : Array Int) (L : mL) (st : List Value) (h : mH) : Option mR :=
  match st with
  | .int x :: r =>
    if x.toInt < lo ∨ hi < x.toInt then m_jump go j pc d L r h
    else match offs[(x.toInt - lo).toNat]? with
      | some off => m_jump go j pc off L r h
      | none => none
  | _ => none
def m_lsw (go : mG) (j pc : Nat) (d : Int) (ps : Array (Int × Int)) (L : mL) (st : List Value) (h : mH) : Option mR :=
  match st with
  | .int x :: r =>
    if (ps.toList.zip (ps.toList.drop 1)).all (fun (a, next) => a.1 < next.1) = true then m_jump go j pc (Op.lookupswitch.offset ps.toList d x.toInt) L r h else none
  | _ => none
def m_getf (go : mG) (j pc len idx : Nat) (L : mL) (st : List Value) (h : mH) : Option mR :=
  match st, m_findF (m_own j) idx with
  | .ref a :: r, some (_, ci, k, _) =>
    match m_get h a with
    | some (.inr (c2, fs)) =>
      match fs[k]? with
      | some v => if len = 3 ∧ c2 = ci then go j (pc + 3) L (v :: r) h else none
      | none => none
    | _ => none
  | _, _ => none
def m_putf (go : mG) (j pc len idx : Nat) (L : mL) (st : List Value) (h : mH) : Option mR :=
  match st, m_findF (m_own j) idx with
  | v :: .ref a :: r, some (_, ci, k, nest) =>
    match m_get h a with
    | some (.inr (c2, fs)) =>
      if len = 3 ∧ c2 = ci ∧ k < fs.length ∧ m_fit (((m_tys[ci]?.getD [])[k]?).getD .int) v = true ∧
        (((m_clsQ ci).2.1 k).2.2.2 = false ∨ (nest = false ∧ (m_y j).name = "<init>" ∧ (m_clsQ ci).1 = m_ownS (m_own j)))
      then go j (pc + 3) L r (m_set h a (.inr (c2, fs.set k v))) else none
    | _ => none
  | _, _ => none
def m_ald (go : mG) (X : mX) (ch : Bool) (j pc len : Nat) (L : mL) (st : List Value) (h : mH) : Option mR :=
  match st with
  | .int i :: .ref a :: r =>
    match m_get h a with
    | some (.inl (c2, n, f)) => if len = 1 ∧ c2 = ch ∧ ¬ (i < 0 ∨ n ≤ i.toNatClampNeg) then go j (pc + 1) L (.int (f i.toNatClampNeg) :: r) h else none
    | _ => none
  | .int i :: .float _ :: r => if len = 1 ∧ ch = false ∧ ¬ (i < 0 ∨ X.1 ≤ i.toNatClampNeg) then go j (pc + 1) L (.int (X.2 i.toNatClampNeg) :: r) h else none
  | _ => none
def m_ast (go : mG) (ch : Bool) (nar : Int32 → Int32) (j pc len : Nat) (L : mL) (st : List Value) (h : mH) : Option mR :=
  match st with
  | .int x :: .int i :: .ref a :: r =>
    match m_get h a with
    | some (.inl (c2, n, f)) => if len = 1 ∧ c2 = ch ∧ ¬ (i < 0 ∨ n ≤ i.toNatClampNeg) then go j (pc + 1) L r (m_set h a (.inl (c2, n, upd f i.toNatClampNeg (nar x)))) else none
    | _ => none
  | _ => none
def m_alen (go : mG) (X : mX) (j pc len : Nat) (L : mL) (st : List Value) (h : mH) : Option mR :=
  match st with
  | .ref a :: r =>
    match m_get h a with
    | some (.inl (_, n, _)) => if len = 1 then go j (pc + 1) L (.int (Int32.ofNat n) :: r) h else none
    | _ => none
  | .float _ :: r => if len = 1 then go j (pc + 1) L (.int (Int32.ofNat X.1) :: r) h else none
  | _ => none
def m_newa (go : mG) (ch : Bool) (j pc len : Nat) (L : mL) (st : List Value) (h : mH) : Option mR :=
  match st with
  | .int n :: r => if len = 2 ∧ ¬ n < 0 ∧ n.toNatClampNeg ≤ 100000 then go j (pc + 2) L (.ref h.1.length :: r) (m_new h (.inl (ch, n.toNatClampNeg, fun _ => 0)) n.toNatClampNeg) else none
  | _ => none
def m_newo (go : mG) (j pc len idx : Nat) (L : mL) (st : List Value) (h : mH) : Option mR :=
  match m_findK (m_own j) idx with
  | some (_, ci) => if len = 3 then go j (pc + 3) L (.ref h.1.length :: st) (m_new h (.inr (ci, m_df ci)) (m_clsQ ci).2.2) else none
  | none => none
/-- a call: the method, its arguments, what stays on the stack -/
def m_call (go : mG) (j pc len j2 : Nat) (as rest : List Value) (L : mL) (h : mH) : Option mR :=
  if len = 3 ∧ rest.length ≤ 8 ∧ rest.all m_c1 = true ∧ as.all m_c1 = true ∧ as.length ≤ m_nl j2 ∧ m_fr j2 + 1 + m_nl j2 / 10 ≤ m_fr j then
    match go j2 0 (m_entry j2 as) [] h with
    | some (v, h1) => go j (pc + 3) L (v.toList ++ rest) h1
    | none => none
  else none
def m_invv (go : mG) (j pc len idx : Nat) (L : mL) (st : List Value) (h : mH) : Option mR :=
  match m_findM (m_own j) idx with
  | some (_, kind, j2) =>
    if kind = 2 then
      match st.drop (m_np j2) with
      | .ref a :: rest =>
        match m_get h a with
        | some (.inr (ci, _)) => if (m_clsQ ci).1 = (m_y j2).cls ∧ ci < m_cls.length then m_call go j pc len j2 (.ref a :: (st.take (m_np j2)).reverse) rest L h else none
        | _ => none
      | _ => none
    else none
  | none => none
def m_invs (go : mG) (j pc len idx : Nat) (L : mL) (st : List Value) (h : mH) : Option mR :=
  match m_findM (m_own j) idx with
  | some (_, kind, j2) =>
    if kind = 3 then (if m_np j2 ≤ st.length then m_call go j pc len j2 (st.take (m_np j2)).reverse (st.drop (m_np j2)) L h else none)
    else if kind = 5 then
      match st with
      | .int n :: .int dp :: .ref a :: .int sp :: .ref a0 :: rest =>
        match m_get h a0, m_get h a with
        | some (.inl (false, n0, f)), some (.inl (false, n1, g)) =>
          if len = 3 ∧ ¬ sp < 0 ∧ ¬ dp < 0 ∧ ¬ n < 0 ∧ sp.toNatClampNeg + n.toNatClampNeg ≤ n0 ∧ dp.toNatClampNeg + n.toNatClampNeg ≤ n1 ∧ rest.length ≤ 8 ∧ rest.all m_c1 = true ∧ 1 ≤ m_fr j
          then go j (pc + 3) L rest (m_set h a (.inl (false, n1, va_cpy f g sp.toNatClampNeg dp.toNatClampNeg n.toNatClampNeg))) else none
        | _, _ => none
      | _ => none
    else if kind = 6 ∨ kind = 7 then
      match st with
      | .int y :: .int x :: rest =>
        if len = 3 ∧ rest.length ≤ 8 ∧ rest.all m_c1 = true ∧ 1 ≤ m_fr j then go j (pc + 3) L (.int (if kind = 6 then (if x < y then y else x) else (if y < x then y else x)) :: rest) h else none
      | _ => none
    else none
  | none => none
def m_invi (go : mG) (j pc len idx : Nat) (L : mL) (st : List Value) (h : mH) : Option mR :=
  match m_findM (m_own j) idx with
  | some (_, kind, j2) =>
    if kind = 4 then
      match st with
      | .ref _ :: rest => if len = 3 ∧ rest.length ≤ 8 ∧ rest.all m_c1 = true ∧ 1 ≤ m_fr j then go j (pc + 3) L rest h else none
      | _ => none
    else if kind ≤ 1 then
      match st.drop (m_np j2) with
      | .ref a :: rest => m_call go j pc len j2 (.ref a :: (st.take (m_np j2)).reverse) rest L h
      | _ => none
    else none
  | none => none
def m_retn (j len : Nat) (st : List Value) (h : mH) : Option mR :=
  match st with
  | [.int x] => if len = 1 ∧ (m_ret j = some .int ∨ (m_ret j = some .boolean ∧ (x = 0 ∨ x = 1))) then some (some (.int x), h) else none
  | _ => none
def m_ins (X : mX) (go : mG) (j pc len : Nat) (i : Instr) (L : mL) (st : List Value) (h : mH) : Option mR :=
  match i with
  | .aload_n n => m_load go m_isref j pc len 1 n.val L st h
  | .iload_n n => m_load go m_isint j pc len 1 n.val L st h
  | .iload n => m_load go m_isint j pc len 2 n L st h
  | .istore_n n => m_store go m_isint j pc len 1 n.val L st h
  | .istore n => m_store go m_isint j pc len 2 n L st h
  | .astore_n n => m_store go m_isref j pc len 1 n.val L st h
  | .aload n => m_load go m_isref j pc len 2 n L st h
  | .astore n => m_store go m_isref j pc len 2 n L st h
  | .ldc idx => match m_findC (m_own j) idx with
    | some (_, v) => m_push go j pc len 2 v L st h
    | none => none
  | .dup_x2 => match st with
    | v :: w :: u :: r => if len = 1 ∧ m_c1 v = true ∧ m_c1 w = true ∧ m_c1 u = true then go j (pc + 1) L (v :: w :: u :: v :: r) h else none
    | _ => none
  | .iconst n => m_push go j pc len 1 (Int32.ofInt n) L st h
  | .bipush n => m_push go j pc len 2 (Int8.ofInt n).toInt32 L st h
  | .sipush n => m_push go j pc len 3 (Int16.ofInt n).toInt32 L st h
  | .ldc_w idx => match m_findC (m_own j) idx with
    | some (_, v) => m_push go j pc len 3 v L st h
    | none => none
  | .iadd => m_bin go j pc len (fun x y => x + y) (fun _ => true) L st h
  | .isub => m_bin go j pc len (fun x y => x - y) (fun _ => true) L st h
  | .imul => m_bin go j pc len (fun x y => x * y) (fun _ => true) L st h
  | .idiv => m_bin go j pc len (fun x y => x / y) (fun y => decide (¬ y = 0)) L st h
  | .irem => m_bin go j pc len (fun x y => x - x / y * y) (fun y => decide (¬ y = 0)) L st h
  | .iand => m_bin go j pc len (fun x y => x &&& y) (fun _ => true) L st h
  | .ior => m_bin go j pc len (fun x y => x ||| y) (fun _ => true) L st h
  | .ixor => m_bin go j pc len (fun x y => x ^^^ y) (fun _ => true) L st h
  | .ishl => m_bin go j pc len (fun x y => x <<< (y &&& 31)) (fun _ => true) L st h
  | .ishr => m_bin go j pc len (fun x y => x >>> (y &&& 31)) (fun _ => true) L st h
  | .iushr => m_bin go j pc len (fun x y => (x.toUInt32 >>> (y.toUInt32 &&& Int32.toUInt32 31)).toInt32) (fun _ => true) L st h
  | .i2c => match st with
    | .int x :: r => if len = 1 then go j (pc + 1) L (.int (x.toUInt32 % 65536).toInt32 :: r) h else none
    | _ => none
  | .iinc n c => m_iinc go j pc len n c L st h
  | .goto off => if len = 3 then m_jump go j pc off L st h else none
  | .ifCond c off => match st with
    | .int x :: r => m_cond go j pc len (m_cb c x 0) off L r h
    | _ => none
  | .if_icmp c off => match st with
    | .int y :: .int x :: r => m_cond go j pc len (m_cb c x y) off L r h
    | _ => none
  | .tableswitch d lo hi offs => m_tsw go j pc d lo hi offs L st h
  | .lookupswitch d ps => m_lsw go j pc d ps L st h
  | .dup => match st with
    | v :: r => if len = 1 ∧ m_c1 v = true then go j (pc + 1) L (v :: v :: r) h else none
    | _ => none
  | .dup2 => match st with
    | v :: w :: r => if len = 1 ∧ m_c1 v = true ∧ m_c1 w = true then go j (pc + 1) L (v :: w :: v :: w :: r) h else none
    | _ => none
  | .getfield idx => m_getf go j pc len idx L st h
  | .putfield idx => m_putf go j pc len idx L st h
  | .iaload => m_ald go X false j pc len L st h
  | .caload => m_ald go X true j pc len L st h
  | .iastore => m_ast go false (fun x => x) j pc len L st h
  | .castore => m_ast go true (vp_nar .char) j pc len L st h
  | .arraylength => m_alen go X j pc len L st h
  | .newarray ty => match ty with
    | .int => m_newa go false j pc len L st h
    | .char => m_newa go true j pc len L st h
    | _ => none
  | .new idx => m_newo go j pc len idx L st h
  | .invokevirtual idx => m_invv go j pc len idx L st h
  | .invokestatic idx => m_invs go j pc len idx L st h
  | .invokespecial idx => m_invi go j pc len idx L st h
  | .ireturn => m_retn j len st h
  | .return_ => match st with
    | [] => if len = 1 ∧ m_ret j = none then some (none, h) else none
    | _ => none
  | .areturn => match st with
    | [.ref a] => if len = 1 ∧ m_ret j = some (.array .int) then some (some (.ref a), h) else none
    | _ => none
  | _ => none
def m_stp (X : mX) (go : mG) : mG := fun j pc L st h =>
  match decode (m_code j) pc with
  | .ok (i, len) => m_ins X go j pc len i L st h
  | _ => none
def m_run (X : mX) : Nat → mG
  | 0 => fun _ _ _ _ _ => none
  | k + 1 => m_stp X (m_run X k)
/-- some number of steps does it -/
def Runs (X : mX) (j pc : Nat) (L : mL) (st : List Value) (h : mH) (r : mR) : Prop := ∃ k, m_run X k j pc L st h = some r
/-! what the tables' rows say, word by word -/
def m_isnest : Cond → Bool
  | .fieldLinkNest .. => true
  | .methodLinkNest .. => true
  | _ => false
def m_tg : List Cond := lw_tbl.filter goodWord
def m_nw : List Cond := lw_tbl.filter m_isnest
theorem m_in_tg {w : Cond} (h : w ∈ lw_tbl) (hg : goodWord w = true) : w ∈ m_tg := List.mem_filter.mpr ⟨h, hg⟩
theorem m_in_nw {w : Cond} (h : w ∈ lw_tbl) (hg : m_isnest w = true) : w ∈ m_nw := List.mem_filter.mpr ⟨h, hg⟩
theorem m_of_places {ws : List Cond} {ps : List Nat} (h : ws = ps.filterMap (fun i => lw_tbl[i]?)) {w : Cond} (hw : w ∈ ws) : w ∈ lw_tbl := by
  rw [h] at hw
  obtain ⟨i, -, hi⟩ := List.mem_filterMap.mp hw
  exact List.mem_of_getElem? hi
theorem m_find_mem {α : Type} {L : List (List α)} {o : Nat} {p : α → Bool} {e : α} (h : (L[o]?.getD []).find? p = some e) : ∃ l, L[o]? = some l ∧ e ∈ l ∧ p e = true := by
  cases hl : L[o]? with
  | none => rw [hl] at h; simp at h
  | some l =>
    rw [hl] at h
    exact ⟨l, rfl, List.mem_of_find?_eq_some h, List.find?_some h⟩
