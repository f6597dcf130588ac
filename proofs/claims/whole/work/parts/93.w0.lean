/-! THE LAW'S WORDS, each by its place in the tables -/
abbrev Gw (q : Cond) : Prop := q ∈ lw_tbl ∧ ((q.onTables && q.keeps) = true ∨ ∃ ty, q = .arrayClass ty)
theorem gw_of {q : Cond} (h : q ∈ tables_1) (g : goodWord q = true) : Gw q := ⟨List.mem_append_right _ h, good_of_word g⟩
theorem gw_t1 {q : Cond} (i : Nat) (h : tables_1_1[i]? = some q) (g : goodWord q = true) : Gw q := gw_of (List.mem_append_left _ (List.mem_of_getElem? h)) g
theorem gw_t2 {q : Cond} (i : Nat) (h : tables_1_2[i]? = some q) (g : goodWord q = true) : Gw q := gw_of (List.mem_append_right _ (List.mem_append_left _ (List.mem_of_getElem? h))) g
theorem gw_t3 {q : Cond} (i : Nat) (h : tables_1_3[i]? = some q) (g : goodWord q = true) : Gw q := gw_of (List.mem_append_right _ (List.mem_append_right _ (List.mem_append_left _ (List.mem_of_getElem? h)))) g
theorem gw_t4 {q : Cond} (i : Nat) (h : tables_1_4[i]? = some q) (g : goodWord q = true) : Gw q := gw_of (List.mem_append_right _ (List.mem_append_right _ (List.mem_append_right _ (List.mem_append_left _ (List.mem_of_getElem? h))))) g
theorem gw_t5 {q : Cond} (i : Nat) (h : tables_1_5[i]? = some q) (g : goodWord q = true) : Gw q := gw_of (List.mem_append_right _ (List.mem_append_right _ (List.mem_append_right _ (List.mem_append_right _ (List.mem_of_getElem? h))))) g
theorem gw_pv {q : MethodName × Nat} {c : Cond} (h : q ∈ lw_privs) (e : c = Cond.selects q.1.cls q.1 q.1) (g : goodWord c = true) : Gw c := ⟨List.mem_append_left _ (List.mem_map.mpr ⟨q, h, e.symm⟩), good_of_word g⟩
theorem gw_nil : GoodIn lw_tbl [] := fun _ h => absurd h List.not_mem_nil
theorem gw_cons {q : Cond} {ws : List Cond} (h : Gw q) (k : GoodIn lw_tbl ws) : GoodIn lw_tbl (q :: ws) := fun w hw => (List.mem_cons.mp hw).elim (fun e => e ▸ h) (k w)
theorem gw_cls {C : String} {T : u_T} {N : Nat} (h : ∀ k, k < N → Gw (u_lay C T k)) : GoodIn lw_tbl (u_ws C T N) := fun w hw => by
  obtain ⟨k, hk, rfl⟩ := List.mem_map.mp hw
  exact h k (List.mem_range.mp hk)
theorem gw_p1 {q : MethodName × Nat} {c : Cond} (i : Nat) (h : lw_privs_1[i]? = some q) (e : c = Cond.selects q.1.cls q.1 q.1) (g : goodWord c = true) : Gw c := gw_pv (List.mem_append_left _ (List.mem_of_getElem? h)) e g
theorem gw_p2 {q : MethodName × Nat} {c : Cond} (i : Nat) (h : lw_privs_2[i]? = some q) (e : c = Cond.selects q.1.cls q.1 q.1) (g : goodWord c = true) : Gw c := gw_pv (List.mem_append_right _ (List.mem_append_left _ (List.mem_of_getElem? h))) e g
theorem gw_p3 {q : MethodName × Nat} {c : Cond} (i : Nat) (h : lw_privs_3[i]? = some q) (e : c = Cond.selects q.1.cls q.1 q.1) (g : goodWord c = true) : Gw c := gw_pv (List.mem_append_right _ (List.mem_append_right _ (List.mem_append_left _ (List.mem_of_getElem? h)))) e g
theorem gw_p4 {q : MethodName × Nat} {c : Cond} (i : Nat) (h : lw_privs_4[i]? = some q) (e : c = Cond.selects q.1.cls q.1 q.1) (g : goodWord c = true) : Gw c := gw_pv (List.mem_append_right _ (List.mem_append_right _ (List.mem_append_right _ (List.mem_append_left _ (List.mem_of_getElem? h))))) e g
theorem gw_p5 {q : MethodName × Nat} {c : Cond} (i : Nat) (h : lw_privs_5[i]? = some q) (e : c = Cond.selects q.1.cls q.1 q.1) (g : goodWord c = true) : Gw c := gw_pv (List.mem_append_right _ (List.mem_append_right _ (List.mem_append_right _ (List.mem_append_right _ (List.mem_of_getElem? h))))) e g
theorem twl_X00 : GoodIn lw_tbl wsX00 := gw_cls (fun k h => match k, h with
  | 0, _ => gw_t2 0 rfl rfl
  | 1, _ => gw_t2 2 rfl rfl
  | 2, _ => gw_t2 4 rfl rfl
  | 3, _ => gw_t2 6 rfl rfl
  | 4, _ => gw_t2 8 rfl rfl
  | 5, _ => gw_t2 10 rfl rfl
  | 6, _ => gw_t2 12 rfl rfl
  | 7, _ => gw_t2 14 rfl rfl
  | 8, _ => gw_t2 16 rfl rfl
  | 9, _ => gw_t2 18 rfl rfl
  | 10, _ => gw_t2 20 rfl rfl
  | 11, _ => gw_t2 22 rfl rfl
  | 12, _ => gw_t2 24 rfl rfl
  | n + 13, h => absurd h (by omega))
theorem twl_X10 : GoodIn lw_tbl wsX10 := gw_cls (fun k h => match k, h with
  | 0, _ => gw_t1 177 rfl rfl
  | 1, _ => gw_t1 179 rfl rfl
  | 2, _ => gw_t1 181 rfl rfl
  | 3, _ => gw_t1 183 rfl rfl
  | 4, _ => gw_t1 185 rfl rfl
  | 5, _ => gw_t1 187 rfl rfl
  | 6, _ => gw_t1 189 rfl rfl
  | 7, _ => gw_t1 191 rfl rfl
  | 8, _ => gw_t1 193 rfl rfl
  | 9, _ => gw_t1 195 rfl rfl
  | 10, _ => gw_t1 197 rfl rfl
  | n + 11, h => absurd h (by omega))
theorem twl_X20 : GoodIn lw_tbl wsX20 := gw_cls (fun k h => match k, h with
  | 0, _ => gw_t1 100 rfl rfl
  | 1, _ => gw_t1 102 rfl rfl
  | 2, _ => gw_t1 104 rfl rfl
  | 3, _ => gw_t1 106 rfl rfl
  | 4, _ => gw_t1 108 rfl rfl
  | n + 5, h => absurd h (by omega))
theorem twl_X30 : GoodIn lw_tbl wsX30 := gw_cls (fun k h => match k, h with
  | 0, _ => gw_t1 37 rfl rfl
  | 1, _ => gw_t1 39 rfl rfl
  | n + 2, h => absurd h (by omega))
theorem twl_X40 : GoodIn lw_tbl wsX40 := gw_cls (fun k h => match k, h with
  | 0, _ => gw_t2 47 rfl rfl
  | 1, _ => gw_t2 49 rfl rfl
  | 2, _ => gw_t2 51 rfl rfl
  | 3, _ => gw_t2 53 rfl rfl
  | 4, _ => gw_t2 55 rfl rfl
  | 5, _ => gw_t2 57 rfl rfl
  | 6, _ => gw_t2 59 rfl rfl
  | n + 7, h => absurd h (by omega))
theorem twl_X50 : GoodIn lw_tbl wsX50 := gw_cls (fun k h => match k, h with
  | 0, _ => gw_t1 64 rfl rfl
  | 1, _ => gw_t1 66 rfl rfl
  | 2, _ => gw_t1 68 rfl rfl
  | 3, _ => gw_t1 70 rfl rfl
  | n + 4, h => absurd h (by omega))
theorem twl_X60 : GoodIn lw_tbl wsX60 := gw_cls (fun k h => match k, h with
  | 0, _ => gw_t2 83 rfl rfl
  | 1, _ => gw_t2 85 rfl rfl
  | 2, _ => gw_t2 87 rfl rfl
  | 3, _ => gw_t2 89 rfl rfl
  | 4, _ => gw_t2 91 rfl rfl
  | 5, _ => gw_t2 93 rfl rfl
  | 6, _ => gw_t2 95 rfl rfl
  | n + 7, h => absurd h (by omega))
theorem twl_X70 : GoodIn lw_tbl wsX70 := gw_cls (fun k h => match k, h with
  | 0, _ => gw_t2 110 rfl rfl
  | 1, _ => gw_t2 112 rfl rfl
  | 2, _ => gw_t2 114 rfl rfl
  | 3, _ => gw_t2 116 rfl rfl
  | 4, _ => gw_t2 118 rfl rfl
  | 5, _ => gw_t2 120 rfl rfl
  | 6, _ => gw_t2 122 rfl rfl
  | 7, _ => gw_t2 124 rfl rfl
  | 8, _ => gw_t2 126 rfl rfl
  | 9, _ => gw_t2 128 rfl rfl
  | 10, _ => gw_t2 130 rfl rfl
  | n + 11, h => absurd h (by omega))
theorem twl_X80 : GoodIn lw_tbl wsX80 := gw_cls (fun k h => match k, h with
  | 0, _ => gw_t4 68 rfl rfl
  | 1, _ => gw_t4 70 rfl rfl
  | 2, _ => gw_t4 72 rfl rfl
  | 3, _ => gw_t4 74 rfl rfl
  | 4, _ => gw_t4 76 rfl rfl
  | 5, _ => gw_t4 78 rfl rfl
  | 6, _ => gw_t4 80 rfl rfl
  | 7, _ => gw_t4 82 rfl rfl
  | 8, _ => gw_t4 84 rfl rfl
  | 9, _ => gw_t4 86 rfl rfl
  | 10, _ => gw_t4 88 rfl rfl
  | 11, _ => gw_t4 90 rfl rfl
  | 12, _ => gw_t4 92 rfl rfl
  | 13, _ => gw_t4 94 rfl rfl
  | 14, _ => gw_t4 96 rfl rfl
  | 15, _ => gw_t4 98 rfl rfl
  | 16, _ => gw_t4 100 rfl rfl
  | 17, _ => gw_t4 102 rfl rfl
  | 18, _ => gw_t4 104 rfl rfl
  | 19, _ => gw_t4 106 rfl rfl
  | 20, _ => gw_t4 108 rfl rfl
  | 21, _ => gw_t4 110 rfl rfl
  | 22, _ => gw_t4 112 rfl rfl
  | 23, _ => gw_t4 114 rfl rfl
  | 24, _ => gw_t4 116 rfl rfl
  | 25, _ => gw_t4 118 rfl rfl
  | 26, _ => gw_t4 120 rfl rfl
  | 27, _ => gw_t4 122 rfl rfl
  | 28, _ => gw_t4 124 rfl rfl
  | 29, _ => gw_t4 126 rfl rfl
  | 30, _ => gw_t4 128 rfl rfl
  | 31, _ => gw_t4 130 rfl rfl
  | 32, _ => gw_t4 132 rfl rfl
  | 33, _ => gw_t4 134 rfl rfl
  | 34, _ => gw_t4 136 rfl rfl
  | 35, _ => gw_t4 138 rfl rfl
  | 36, _ => gw_t4 140 rfl rfl
  | 37, _ => gw_t4 142 rfl rfl
  | 38, _ => gw_t4 144 rfl rfl
  | 39, _ => gw_t4 146 rfl rfl
  | 40, _ => gw_t4 148 rfl rfl
  | 41, _ => gw_t4 150 rfl rfl
  | 42, _ => gw_t4 152 rfl rfl
  | 43, _ => gw_t4 154 rfl rfl
  | 44, _ => gw_t4 156 rfl rfl
  | 45, _ => gw_t4 158 rfl rfl
  | 46, _ => gw_t4 160 rfl rfl
  | 47, _ => gw_t4 162 rfl rfl
  | 48, _ => gw_t4 164 rfl rfl
  | 49, _ => gw_t4 166 rfl rfl
  | 50, _ => gw_t4 168 rfl rfl
  | 51, _ => gw_t4 170 rfl rfl
  | 52, _ => gw_t4 172 rfl rfl
  | 53, _ => gw_t4 174 rfl rfl
  | 54, _ => gw_t4 176 rfl rfl
  | 55, _ => gw_t4 178 rfl rfl
  | 56, _ => gw_t4 180 rfl rfl
  | 57, _ => gw_t4 182 rfl rfl
  | 58, _ => gw_t4 184 rfl rfl
  | 59, _ => gw_t4 186 rfl rfl
  | n + 60, h => absurd h (by omega))
