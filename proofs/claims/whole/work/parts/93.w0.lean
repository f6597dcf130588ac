/-! THE LAW'S WORDS, each by its place in the tables -/
abbrev Gw (q : Cond) : Prop := q ∈ lw_tbl ∧ ((q.onTables && q.keeps) = true ∨ ∃ ty, q = .arrayClass ty)
theorem gw_of {q : Cond} (h : q ∈ tables_1) (g : goodWord q = true) : Gw q := ⟨List.mem_append_right _ h, good_of_word g⟩
theorem gw_t1 {q : Cond} (i : Nat) (h : tables_1_1[i]? = some q) (g : goodWord q = true) : Gw q := gw_of (List.mem_append_left _ (List.mem_of_getElem? h)) g
theorem gw_t2 {q : Cond} (i : Nat) (h : tables_1_2[i]? = some q) (g : goodWord q = true) : Gw q := gw_of (List.mem_append_right _ (List.mem_append_left _ (List.mem_of_getElem? h))) g
theorem gw_t3 {q : Cond} (i : Nat) (h : tables_1_3[i]? = some q) (g : goodWord q = true) : Gw q := gw_of (List.mem_append_right _ (List.mem_append_right _ (List.mem_append_left _ (List.mem_of_getElem? h)))) g
theorem gw_t4 {q : Cond} (i : Nat) (h : tables_1_4[i]? = some q) (g : goodWord q = true) : Gw q := gw_of (List.mem_append_right _ (List.mem_append_right _ (List.mem_append_right _ (List.mem_append_left _ (List.mem_of_getElem? h))))) g
theorem gw_t5 {q : Cond} (i : Nat) (h : tables_1_5[i]? = some q) (g : goodWord q = true) : Gw q := gw_of (List.mem_append_right _ (List.mem_append_right _ (List.mem_append_right _ (List.mem_append_right _ (List.mem_of_getElem? h))))) g
theorem gw_pv {q : MethodName × Nat} {c : Cond} (h : q ∈ lw_privs) (e : c = Cond.selects q.1.cls q.1 q.1) (g : goodWord c = true) : Gw c := ⟨List.mem_append_left _ (List.mem_map.mpr ⟨q, h, e.symm⟩), good_of_word g⟩
theorem gw_nil : GoodIn lw_tbl [] := fun _ h => absurd h List.not_mem_nil
theorem gw_cons {q : Cond} {ws : List Cond} (h : Gw q) (k : GoodIn lw_tbl ws) : GoodIn lw_tbl (q :: ws) := fun w hw => (List.mem_cons.mp hw).elim (fun e => e ▸ h) (k w)
theorem gw_cls {C : String} {T : u_T} {N : Nat} (h : ∀ k, k < N → Gw (u_lay C T k)) : GoodIn lw_tbl (u_ws C T N) := fun w hw => by
  obtain ⟨k, hk, rfl⟩ := List.mem_map.mp hw
  exact h k (List.mem_range.mp hk)
theorem gw_p1 {q : MethodName × Nat} {c : Cond} (i : Nat) (h : lw_privs_1[i]? = some q) (e : c = Cond.selects q.1.cls q.1 q.1) (g : goodWord c = true) : Gw c := gw_pv (List.mem_append_left _ (List.mem_of_getElem? h)) e g
theorem gw_p2 {q : MethodName × Nat} {c : Cond} (i : Nat) (h : lw_privs_2[i]? = some q) (e : c = Cond.selects q.1.cls q.1 q.1) (g : goodWord c = true) : Gw c := gw_pv (List.mem_append_right _ (List.mem_append_left _ (List.mem_of_getElem? h))) e g
theorem gw_p3 {q : MethodName × Nat} {c : Cond} (i : Nat) (h : lw_privs_3[i]? = some q) (e : c = Cond.selects q.1.cls q.1 q.1) (g : goodWord c = true) : Gw c := gw_pv (List.mem_append_right _ (List.mem_append_right _ (List.mem_append_left _ (List.mem_of_getElem? h)))) e g
theorem gw_p4 {q : MethodName × Nat} {c : Cond} (i : Nat) (h : lw_privs_4[i]? = some q) (e : c = Cond.selects q.1.cls q.1 q.1) (g : goodWord c = true) : Gw c := gw_pv (List.mem_append_right _ (List.mem_append_right _ (List.mem_append_right _ (List.mem_append_left _ (List.mem_of_getElem? h))))) e g
theorem gw_p5 {q : MethodName × Nat} {c : Cond} (i : Nat) (h : lw_privs_5[i]? = some q) (e : c = Cond.selects q.1.cls q.1 q.1) (g : goodWord c = true) : Gw c := gw_pv (List.mem_append_right _ (List.mem_append_right _ (List.mem_append_right _ (List.mem_append_right _ (List.mem_of_getElem? h))))) e g
theorem twl_X00 : GoodIn lw_tbl wsX00 := gw_cls (fun k h => match k, h with
  | 0, _ => gw_t2 0 rfl rfl
  | 1, _ => gw_t2 2 rfl rfl
  | 2, _ => gw_t2 4 rfl rfl
  | 3, _ => gw_t2 6 rfl rfl
  | 4, _ => gw_t2 8 rfl rfl
  | 5, _ => gw_t2 10 rfl rfl
  | 6, _ => gw_t2 12 rfl rfl
  | 7, _ => gw_t2 14 rfl rfl
  | 8, _ => gw_t2 16 rfl rfl
  | 9, _ => gw_t2 18 rfl rfl
  | 10, _ => gw_t2 20 rfl rfl
  | 11, _ => gw_t2 22 rfl rfl
  | 12, _ => gw_t2 24 rfl rfl
  | n + 13, h => absurd h (by omega))
theorem twl_X10 : GoodIn lw_tbl wsX10 := gw_cls (fun k h => match k, h with
  | 0, _ => gw_t1 177 rfl rfl
  | 1, _ => gw_t1 179 rfl rfl
  | 2, _ => gw_t1 181 rfl rfl
  | 3, _ => gw_t1 183 rfl rfl
  | 4, _ => gw_t1 185 rfl rfl
  | 5, _ => gw_t1 187 rfl rfl
  | 6, _ => gw_t1 189 rfl rfl
  | 7, _ => gw_t1 191 rfl rfl
  | 8, _ => gw_t1 193 rfl rfl
  | 9, _ => gw_t1 195 rfl rfl
  | 10, _ => gw_t1 197 rfl rfl
  | n + 11, h => absurd h (by omega))
theorem twl_X20 : GoodIn lw_tbl wsX20 := gw_cls (fun k h => match k, h with
  | 0, _ => gw_t1 100 rfl rfl
  | 1, _ => gw_t1 102 rfl rfl
  | 2, _ => gw_t1 104 rfl rfl
  | 3, _ => gw_t1 106 rfl rfl
  | 4, _ => gw_t1 108 rfl rfl
  | n + 5, h => absurd h (by omega))
theorem twl_X30 : GoodIn lw_tbl wsX30 := gw_cls (fun k h => match k, h with
  | 0, _ => gw_t1 37 rfl rfl
  | 1, _ => gw_t1 39 rfl rfl
  | n + 2, h => absurd h (by omega))
theorem twl_X40 : GoodIn lw_tbl wsX40 := gw_cls (fun k h => match k, h with
  | 0, _ => gw_t2 47 rfl rfl
  | 1, _ => gw_t2 49 rfl rfl
  | 2, _ => gw_t2 51 rfl rfl
  | 3, _ => gw_t2 53 rfl rfl
  | 4, _ => gw_t2 55 rfl rfl
  | 5, _ => gw_t2 57 rfl rfl
  | 6, _ => gw_t2 59 rfl rfl
  | n + 7, h => absurd h (by omega))
theorem twl_X50 : GoodIn lw_tbl wsX50 := gw_cls (fun k h => match k, h with
  | 0, _ => gw_t1 64 rfl rfl
  | 1, _ => gw_t1 66 rfl rfl
  | 2, _ => gw_t1 68 rfl rfl
  | 3, _ => gw_t1 70 rfl rfl
  | n + 4, h => absurd h (by omega))
theorem twl_X60 : GoodIn lw_tbl wsX60 := gw_cls (fun k h => match k, h with
  | 0, _ => gw_t2 83 rfl rfl
  | 1, _ => gw_t2 85 rfl rfl
  | 2, _ => gw_t2 87 rfl rfl
  | 3, _ => gw_t2 89 rfl rfl
  | 4, _ => gw_t2 91 rfl rfl
  | 5, _ => gw_t2 93 rfl rfl
  | 6, _ => gw_t2 95 rfl rfl
  | n + 7, h => absurd h (by omega))
theorem twl_X70 : GoodIn lw_tbl wsX70 := gw_cls (fun k h => match k, h with
  | 0, _ => gw_t2 110 rfl rfl
  | 1, _ => gw_t2 112 rfl rfl
  | 2, _ => gw_t2 114 rfl rfl
  | 3, _ => gw_t2 116 rfl rfl
  | 4, _ => gw_t2 118 rfl rfl
  | 5, _ => gw_t2 120 rfl rfl
  | 6, _ => gw_t2 122 rfl rfl
  | 7, _ => gw_t2 124 rfl rfl
  | 8, _ => gw_t2 126 rfl rfl
  | 9, _ => gw_t2 128 rfl rfl
  | 10, _ => gw_t2 130 rfl rfl
  | n + 11, h => absurd h (by omega))
theorem twl_X80 : GoodIn lw_tbl wsX80 := gw_cls (fun k h => match k, h with
  | 0, _ => gw_t4 71 rfl rfl
  | 1, _ => gw_t4 73 rfl rfl
  | 2, _ => gw_t4 75 rfl rfl
  | 3, _ => gw_t4 77 rfl rfl
  | 4, _ => gw_t4 79 rfl rfl
  | 5, _ => gw_t4 81 rfl rfl
  | 6, _ => gw_t4 83 rfl rfl
  | 7, _ => gw_t4 85 rfl rfl
  | 8, _ => gw_t4 87 rfl rfl
  | 9, _ => gw_t4 89 rfl rfl
  | 10, _ => gw_t4 91 rfl rfl
  | 11, _ => gw_t4 93 rfl rfl
  | 12, _ => gw_t4 95 rfl rfl
  | 13, _ => gw_t4 97 rfl rfl
  | 14, _ => gw_t4 99 rfl rfl
  | 15, _ => gw_t4 101 rfl rfl
  | 16, _ => gw_t4 103 rfl rfl
  | 17, _ => gw_t4 105 rfl rfl
  | 18, _ => gw_t4 107 rfl rfl
  | 19, _ => gw_t4 109 rfl rfl
  | 20, _ => gw_t4 111 rfl rfl
  | 21, _ => gw_t4 113 rfl rfl
  | 22, _ => gw_t4 115 rfl rfl
  | 23, _ => gw_t4 117 rfl rfl
  | 24, _ => gw_t4 119 rfl rfl
  | 25, _ => gw_t4 121 rfl rfl
  | 26, _ => gw_t4 123 rfl rfl
  | 27, _ => gw_t4 125 rfl rfl
  | 28, _ => gw_t4 127 rfl rfl
  | 29, _ => gw_t4 129 rfl rfl
  | 30, _ => gw_t4 131 rfl rfl
  | 31, _ => gw_t4 133 rfl rfl
  | 32, _ => gw_t4 135 rfl rfl
  | 33, _ => gw_t4 137 rfl rfl
  | 34, _ => gw_t4 139 rfl rfl
  | 35, _ => gw_t4 141 rfl rfl
  | 36, _ => gw_t4 143 rfl rfl
  | 37, _ => gw_t4 145 rfl rfl
  | 38, _ => gw_t4 147 rfl rfl
  | 39, _ => gw_t4 149 rfl rfl
  | 40, _ => gw_t4 151 rfl rfl
  | 41, _ => gw_t4 153 rfl rfl
  | 42, _ => gw_t4 155 rfl rfl
  | 43, _ => gw_t4 157 rfl rfl
  | 44, _ => gw_t4 159 rfl rfl
  | 45, _ => gw_t4 161 rfl rfl
  | 46, _ => gw_t4 163 rfl rfl
  | 47, _ => gw_t4 165 rfl rfl
  | 48, _ => gw_t4 167 rfl rfl
  | 49, _ => gw_t4 169 rfl rfl
  | 50, _ => gw_t4 171 rfl rfl
  | 51, _ => gw_t4 173 rfl rfl
  | 52, _ => gw_t4 175 rfl rfl
  | 53, _ => gw_t4 177 rfl rfl
  | 54, _ => gw_t4 179 rfl rfl
  | 55, _ => gw_t4 181 rfl rfl
  | 56, _ => gw_t4 183 rfl rfl
  | 57, _ => gw_t4 185 rfl rfl
  | 58, _ => gw_t4 187 rfl rfl
  | 59, _ => gw_t4 189 rfl rfl
  | n + 60, h => absurd h (by omega))
