def Op_status (Inv : AM → Prop) : Prop := ∀ (d : Nat) (h : AM), Inv h → ∃ r h1 h2, EV (d + 60) 104 0 [(2, 0)] [] h = some ((0, r), h1) ∧ EV (d + 60) 172 0 [(2, 235)] [] h1 = some ((0, r), h2) ∧ Inv h2
def Op_top (Inv : AM → Prop) : Prop := ∀ (d : Nat) (h : AM), Inv h → ∃ r h1 h2, EV (d + 60) 105 0 [(2, 0)] [] h = some ((1, r), h1) ∧ EV (d + 60) 173 0 [(2, 235)] [] h1 = some ((1, r), h2) ∧ Inv h2
def Op_bottom (Inv : AM → Prop) : Prop := ∀ (d : Nat) (h : AM), Inv h → ∃ r h1 h2, EV (d + 60) 106 0 [(2, 0)] [] h = some ((1, r), h1) ∧ EV (d + 60) 174 0 [(2, 235)] [] h1 = some ((1, r), h2) ∧ Inv h2
def Op_tray (Inv : AM → Prop) : Prop := ∀ (d : Nat) (h : AM) (a0 a1 a2 : Int), Inv h → in32 a0 → in32 a1 → in32 a2 → ∃ r h1 h2, EV (d + 60) 107 0 [(2, 0), (0, a0), (0, a1), (0, a2)] [] h = some ((0, r), h1) ∧ EV (d + 60) 180 0 [(2, 235), (0, a0), (0, a1), (0, a2), (3, 0)] [] h1 = some ((0, r), h2) ∧ Inv h2
def Op_write (Inv : AM → Prop) : Prop := ∀ (d : Nat) (h : AM) (a0 a1 a2 : Int), Inv h → in32 a0 → in32 a1 → in64 a2 → ∃ r h1 h2, EV (d + 60) 108 0 [(2, 0), (0, a0), (0, a1), (1, a2), (3, 1), (3, 0)] [] h = some ((0, r), h1) ∧ EV (d + 60) 183 0 [(2, 235), (0, a0), (0, a1), (1, a2), (3, 1)] [] h1 = some ((0, r), h2) ∧ Inv h2
def Op_read (Inv : AM → Prop) : Prop := ∀ (d : Nat) (h : AM) (a0 a1 : Int), Inv h → in32 a0 → in32 a1 → ∃ r h1 h2, EV (d + 60) 109 0 [(2, 0), (0, a0), (0, a1), (3, 0)] [] h = some ((1, r), h1) ∧ EV (d + 60) 184 0 [(2, 235), (0, a0), (0, a1)] [] h1 = some ((1, r), h2) ∧ Inv h2
def Op_pour (Inv : AM → Prop) : Prop := ∀ (d : Nat) (h : AM) (a0 a1 a2 a3 a4 : Int), Inv h → in32 a0 → in32 a1 → in32 a2 → in32 a3 → in32 a4 → ∃ r h1 h2, EV (d + 60) 110 0 [(2, 0), (0, a0), (0, a1), (0, a2), (0, a3), (0, a4), (3, 0), (3, 0)] [] h = some ((0, r), h1) ∧ EV (d + 60) 185 0 [(2, 235), (0, a0), (0, a1), (0, a2), (0, a3), (0, a4), (3, 0), (3, 0), (3, 0)] [] h1 = some ((0, r), h2) ∧ Inv h2
def Op_feed (Inv : AM → Prop) : Prop := ∀ (d : Nat) (h : AM) (a0 a1 a2 a3 a4 : Int), Inv h → in32 a0 → in32 a1 → in32 a2 → in32 a3 → in32 a4 → ∃ r h1 h2, EV (d + 60) 111 0 [(2, 0), (0, a0), (0, a1), (0, a2), (0, a3), (0, a4)] [] h = some ((0, r), h1) ∧ EV (d + 60) 217 0 [(2, 235), (0, a0), (0, a1), (0, a2), (0, a3), (0, a4)] [] h1 = some ((0, r), h2) ∧ Inv h2
def Op_school (Inv : AM → Prop) : Prop := ∀ (d : Nat) (h : AM) (a0 : Int), Inv h → in32 a0 → ∃ r h1 h2, EV (d + 60) 112 0 [(2, 0), (0, a0), (3, 0)] [] h = some ((0, r), h1) ∧ EV (d + 60) 234 0 [(2, 235), (0, a0), (3, 0)] [] h1 = some ((0, r), h2) ∧ Inv h2
def Op_age (Inv : AM → Prop) : Prop := ∀ (d : Nat) (h : AM) (a0 : Int), Inv h → in32 a0 → ∃ r h1 h2, EV (d + 60) 113 0 [(2, 0), (0, a0), (3, 0)] [] h = some ((0, r), h1) ∧ EV (d + 60) 238 0 [(2, 235), (0, a0), (3, 0)] [] h1 = some ((0, r), h2) ∧ Inv h2
def Op_fault (Inv : AM → Prop) : Prop := ∀ (d : Nat) (h : AM) (a0 : Int), Inv h → in32 a0 → ∃ r h1 h2, EV (d + 60) 114 0 [(2, 0), (0, a0)] [] h = some ((0, r), h1) ∧ EV (d + 60) 221 0 [(2, 235), (0, a0)] [] h1 = some ((0, r), h2) ∧ Inv h2
def Op_many (Inv : AM → Prop) : Prop := ∀ (d : Nat) (h : AM) (a0 : Int), Inv h → in32 a0 → ∃ r h1 h2, EV (d + 60) 115 0 [(2, 0), (0, a0)] [] h = some ((0, r), h1) ∧ EV (d + 60) 245 0 [(2, 235), (0, a0)] [] h1 = some ((0, r), h2) ∧ Inv h2
def Op_lesson (Inv : AM → Prop) : Prop := ∀ (d : Nat) (h : AM) (a0 a1 : Int), Inv h → in32 a0 → in32 a1 → ∃ r h1 h2, EV (d + 60) 116 0 [(2, 0), (0, a0), (0, a1), (3, 0)] [] h = some ((0, r), h1) ∧ EV (d + 60) 246 0 [(2, 235), (0, a0), (0, a1)] [] h1 = some ((0, r), h2) ∧ Inv h2
def Op_child (Inv : AM → Prop) : Prop := ∀ (d : Nat) (h : AM) (a0 a1 : Int), Inv h → in32 a0 → in32 a1 → ∃ r h1 h2, EV (d + 60) 117 0 [(2, 0), (0, a0), (0, a1), (3, 0)] [] h = some ((0, r), h1) ∧ EV (d + 60) 247 0 [(2, 235), (0, a0), (0, a1)] [] h1 = some ((0, r), h2) ∧ Inv h2
def Op_letter (Inv : AM → Prop) : Prop := ∀ (d : Nat) (h : AM) (a0 a1 a2 : Int), Inv h → in32 a0 → in32 a1 → in32 a2 → ∃ r h1 h2, EV (d + 60) 118 0 [(2, 0), (0, a0), (0, a1), (0, a2), (3, 0)] [] h = some ((0, r), h1) ∧ EV (d + 60) 248 0 [(2, 235), (0, a0), (0, a1), (0, a2)] [] h1 = some ((0, r), h2) ∧ Inv h2
def Op_teaches (Inv : AM → Prop) : Prop := ∀ (d : Nat) (h : AM) (a0 : Int), Inv h → in32 a0 → ∃ r h1 h2, EV (d + 60) 119 0 [(2, 0), (0, a0), (3, 0), (3, 0)] [] h = some ((0, r), h1) ∧ EV (d + 60) 249 0 [(2, 235), (0, a0), (3, 0), (3, 0)] [] h1 = some ((0, r), h2) ∧ Inv h2
def Op_copyName (Inv : AM → Prop) : Prop := ∀ (d : Nat) (h : AM) (a0 a1 : Int), Inv h → in32 a0 → in32 a1 → ∃ r h1 h2, EV (d + 60) 120 0 [(2, 0), (0, a0), (0, a1), (3, 0), (3, 0), (3, 0)] [] h = some ((0, r), h1) ∧ EV (d + 60) 250 0 [(2, 235), (0, a0), (0, a1), (3, 0)] [] h1 = some ((0, r), h2) ∧ Inv h2
def Op_learn (Inv : AM → Prop) : Prop := ∀ (d : Nat) (h : AM) (a0 a1 : Int), Inv h → in32 a0 → in32 a1 → ∃ r h1 h2, EV (d + 60) 121 0 [(2, 0), (0, a0), (0, a1), (3, 0)] [] h = some ((0, r), h1) ∧ EV (d + 60) 255 0 [(2, 235), (0, a0), (0, a1), (3, 0)] [] h1 = some ((0, r), h2) ∧ Inv h2
def Op_lose (Inv : AM → Prop) : Prop := ∀ (d : Nat) (h : AM) (a0 a1 : Int), Inv h → in32 a0 → in32 a1 → ∃ r h1 h2, EV (d + 60) 122 0 [(2, 0), (0, a0), (0, a1), (3, 0)] [] h = some ((0, r), h1) ∧ EV (d + 60) 257 0 [(2, 235), (0, a0), (0, a1)] [] h1 = some ((0, r), h2) ∧ Inv h2
def Op_rest (Inv : AM → Prop) : Prop := ∀ (d : Nat) (h : AM) (a0 a1 : Int), Inv h → in32 a0 → in32 a1 → ∃ r h1 h2, EV (d + 60) 123 0 [(2, 0), (0, a0), (0, a1), (3, 0)] [] h = some ((0, r), h1) ∧ EV (d + 60) 258 0 [(2, 235), (0, a0), (0, a1)] [] h1 = some ((0, r), h2) ∧ Inv h2
def Op_pay (Inv : AM → Prop) : Prop := ∀ (d : Nat) (h : AM) (a0 a1 : Int), Inv h → in32 a0 → in32 a1 → ∃ r h1 h2, EV (d + 60) 124 0 [(2, 0), (0, a0), (0, a1), (3, 0)] [] h = some ((0, r), h1) ∧ EV (d + 60) 260 0 [(2, 235), (0, a0), (0, a1)] [] h1 = some ((0, r), h2) ∧ Inv h2
def Op_ready (Inv : AM → Prop) : Prop := ∀ (d : Nat) (h : AM) (a0 a1 : Int), Inv h → in32 a0 → in32 a1 → ∃ r h1 h2, EV (d + 60) 125 0 [(2, 0), (0, a0), (0, a1)] [] h = some ((0, r), h1) ∧ EV (d + 60) 264 0 [(2, 235), (0, a0), (0, a1)] [] h1 = some ((0, r), h2) ∧ Inv h2
def Op_takes (Inv : AM → Prop) : Prop := ∀ (d : Nat) (h : AM) (a0 a1 : Int), Inv h → in32 a0 → in32 a1 → ∃ r h1 h2, EV (d + 60) 126 0 [(2, 0), (0, a0), (0, a1)] [] h = some ((0, r), h1) ∧ EV (d + 60) 265 0 [(2, 235), (0, a0), (0, a1)] [] h1 = some ((0, r), h2) ∧ Inv h2
def Op_opens (Inv : AM → Prop) : Prop := ∀ (d : Nat) (h : AM) (a0 a1 : Int), Inv h → in32 a0 → in32 a1 → ∃ r h1 h2, EV (d + 60) 127 0 [(2, 0), (0, a0), (0, a1), (3, 0), (3, 0), (3, 0), (3, 0)] [] h = some ((0, r), h1) ∧ EV (d + 60) 266 0 [(2, 235), (0, a0), (0, a1), (3, 0)] [] h1 = some ((0, r), h2) ∧ Inv h2
def Op_choice (Inv : AM → Prop) : Prop := ∀ (d : Nat) (h : AM) (a0 : Int), Inv h → in32 a0 → ∃ r h1 h2, EV (d + 60) 128 0 [(2, 0), (0, a0)] [] h = some ((0, r), h1) ∧ EV (d + 60) 274 0 [(2, 235), (0, a0), (3, 0)] [] h1 = some ((0, r), h2) ∧ Inv h2
def Op_said (Inv : AM → Prop) : Prop := ∀ (d : Nat) (h : AM) (a0 : Int), Inv h → in32 a0 → ∃ r h1 h2, EV (d + 60) 129 0 [(2, 0), (0, a0)] [] h = some ((0, r), h1) ∧ EV (d + 60) 275 0 [(2, 235), (0, a0)] [] h1 = some ((0, r), h2) ∧ Inv h2
def Op_stumbles (Inv : AM → Prop) : Prop := ∀ (d : Nat) (h : AM) (a0 : Int), Inv h → in32 a0 → ∃ r h1 h2, EV (d + 60) 130 0 [(2, 0), (0, a0)] [] h = some ((0, r), h1) ∧ EV (d + 60) 276 0 [(2, 235), (0, a0), (3, 0)] [] h1 = some ((0, r), h2) ∧ Inv h2
def Op_drop (Inv : AM → Prop) : Prop := ∀ (d : Nat) (h : AM) (a0 : Int), Inv h → in32 a0 → ∃ r h1 h2, EV (d + 60) 131 0 [(2, 0), (0, a0), (3, 0)] [] h = some ((0, r), h1) ∧ EV (d + 60) 277 0 [(2, 235), (0, a0), (3, 0), (3, 0), (3, 0)] [] h1 = some ((0, r), h2) ∧ Inv h2
def Op_firm (Inv : AM → Prop) : Prop := ∀ (d : Nat) (h : AM) (a0 : Int), Inv h → in32 a0 → ∃ r h1 h2, EV (d + 60) 132 0 [(2, 0), (0, a0), (3, 0)] [] h = some ((0, r), h1) ∧ EV (d + 60) 279 0 [(2, 235), (0, a0)] [] h1 = some ((0, r), h2) ∧ Inv h2
def Op_weak (Inv : AM → Prop) : Prop := ∀ (d : Nat) (h : AM) (a0 : Int), Inv h → in32 a0 → ∃ r h1 h2, EV (d + 60) 133 0 [(2, 0), (0, a0)] [] h = some ((0, r), h1) ∧ EV (d + 60) 280 0 [(2, 235), (0, a0), (3, 0)] [] h1 = some ((0, r), h2) ∧ Inv h2
def Op_vowels (Inv : AM → Prop) : Prop := ∀ (d : Nat) (h : AM) (a0 : Int), Inv h → in32 a0 → ∃ r h1 h2, EV (d + 60) 134 0 [(2, 0), (0, a0), (3, 0), (3, 0), (3, 0)] [] h = some ((0, r), h1) ∧ EV (d + 60) 281 0 [(2, 235), (0, a0), (3, 0), (3, 0)] [] h1 = some ((0, r), h2) ∧ Inv h2
def Op_rhyme (Inv : AM → Prop) : Prop := ∀ (d : Nat) (h : AM) (a0 a1 : Int), Inv h → in32 a0 → in32 a1 → ∃ r h1 h2, EV (d + 60) 135 0 [(2, 0), (0, a0), (0, a1), (3, 0)] [] h = some ((0, r), h1) ∧ EV (d + 60) 282 0 [(2, 235), (0, a0), (0, a1), (3, 0)] [] h1 = some ((0, r), h2) ∧ Inv h2
def Op_apart (Inv : AM → Prop) : Prop := ∀ (d : Nat) (h : AM) (a0 a1 : Int), Inv h → in32 a0 → in32 a1 → ∃ r h1 h2, EV (d + 60) 136 0 [(2, 0), (0, a0), (0, a1), (3, 0)] [] h = some ((0, r), h1) ∧ EV (d + 60) 284 0 [(2, 235), (0, a0), (0, a1), (3, 0)] [] h1 = some ((0, r), h2) ∧ Inv h2
def Op_behind (Inv : AM → Prop) : Prop := ∀ (d : Nat) (h : AM) (a0 a1 : Int), Inv h → in32 a0 → in32 a1 → ∃ r h1 h2, EV (d + 60) 137 0 [(2, 0), (0, a0), (0, a1), (3, 0), (3, 0), (3, 0), (3, 0)] [] h = some ((0, r), h1) ∧ EV (d + 60) 285 0 [(2, 235), (0, a0), (0, a1), (3, 0)] [] h1 = some ((0, r), h2) ∧ Inv h2
def Op_life (Inv : AM → Prop) : Prop := ∀ (d : Nat) (h : AM) (a0 a1 : Int), Inv h → in32 a0 → in32 a1 → ∃ r h1 h2, EV (d + 60) 138 0 [(2, 0), (0, a0), (0, a1), (3, 0), (3, 0)] [] h = some ((0, r), h1) ∧ EV (d + 60) 286 0 [(2, 235), (0, a0), (0, a1), (3, 0), (3, 0), (3, 0)] [] h1 = some ((0, r), h2) ∧ Inv h2
def Op_soonest (Inv : AM → Prop) : Prop := ∀ (d : Nat) (h : AM) (a0 a1 : Int), Inv h → in32 a0 → in32 a1 → ∃ r h1 h2, EV (d + 60) 139 0 [(2, 0), (0, a0), (0, a1), (3, 0)] [] h = some ((0, r), h1) ∧ EV (d + 60) 291 0 [(2, 235), (0, a0), (0, a1)] [] h1 = some ((0, r), h2) ∧ Inv h2
def Op_cheapest (Inv : AM → Prop) : Prop := ∀ (d : Nat) (h : AM) (a0 a1 : Int), Inv h → in32 a0 → in32 a1 → ∃ r h1 h2, EV (d + 60) 140 0 [(2, 0), (0, a0), (0, a1), (3, 0)] [] h = some ((0, r), h1) ∧ EV (d + 60) 292 0 [(2, 235), (0, a0), (0, a1)] [] h1 = some ((0, r), h2) ∧ Inv h2
def Op_ways (Inv : AM → Prop) : Prop := ∀ (d : Nat) (h : AM) (a0 a1 : Int), Inv h → in32 a0 → in32 a1 → ∃ r h1 h2, EV (d + 60) 141 0 [(2, 0), (0, a0), (0, a1), (3, 0)] [] h = some ((1, r), h1) ∧ EV (d + 60) 293 0 [(2, 235), (0, a0), (0, a1)] [] h1 = some ((1, r), h2) ∧ Inv h2
def Op_first (Inv : AM → Prop) : Prop := ∀ (d : Nat) (h : AM) (a0 a1 : Int), Inv h → in32 a0 → in32 a1 → ∃ r h1 h2, EV (d + 60) 142 0 [(2, 0), (0, a0), (0, a1), (3, 0)] [] h = some ((0, r), h1) ∧ EV (d + 60) 294 0 [(2, 235), (0, a0), (0, a1), (3, 0), (3, 0), (3, 0)] [] h1 = some ((0, r), h2) ∧ Inv h2
def Op_firstAt (Inv : AM → Prop) : Prop := ∀ (d : Nat) (h : AM) (a0 : Int), Inv h → in32 a0 → ∃ r h1 h2, EV (d + 60) 143 0 [(2, 0), (0, a0)] [] h = some ((0, r), h1) ∧ EV (d + 60) 295 0 [(2, 235), (0, a0)] [] h1 = some ((0, r), h2) ∧ Inv h2
def Op_goes (Inv : AM → Prop) : Prop := ∀ (d : Nat) (h : AM) (a0 a1 : Int), Inv h → in32 a0 → in32 a1 → ∃ r h1 h2, EV (d + 60) 144 0 [(2, 0), (0, a0), (0, a1), (3, 0)] [] h = some ((0, r), h1) ∧ EV (d + 60) 296 0 [(2, 235), (0, a0), (0, a1), (3, 0)] [] h1 = some ((0, r), h2) ∧ Inv h2
def Op_lives (Inv : AM → Prop) : Prop := ∀ (d : Nat) (h : AM) (a0 : Int), Inv h → in32 a0 → ∃ r h1 h2, EV (d + 60) 145 0 [(2, 0), (0, a0)] [] h = some ((1, r), h1) ∧ EV (d + 60) 297 0 [(2, 235), (0, a0)] [] h1 = some ((1, r), h2) ∧ Inv h2
def Op_orders (Inv : AM → Prop) : Prop := ∀ (d : Nat) (h : AM) (a0 : Int), Inv h → in32 a0 → ∃ r h1 h2, EV (d + 60) 146 0 [(2, 0), (0, a0)] [] h = some ((1, r), h1) ∧ EV (d + 60) 299 0 [(2, 235), (0, a0), (3, 0), (3, 0), (3, 0)] [] h1 = some ((1, r), h2) ∧ Inv h2
def Op_reach (Inv : AM → Prop) : Prop := ∀ (d : Nat) (h : AM) (a0 : Int), Inv h → in32 a0 → ∃ r h1 h2, EV (d + 60) 147 0 [(2, 0), (0, a0)] [] h = some ((0, r), h1) ∧ EV (d + 60) 304 0 [(2, 235), (0, a0)] [] h1 = some ((0, r), h2) ∧ Inv h2
def Op_sayable (Inv : AM → Prop) : Prop := ∀ (d : Nat) (h : AM) (a0 : Int), Inv h → in32 a0 → ∃ r h1 h2, EV (d + 60) 148 0 [(2, 0), (0, a0), (3, 0), (3, 0)] [] h = some ((0, r), h1) ∧ EV (d + 60) 302 0 [(2, 235), (0, a0), (3, 0), (3, 0), (3, 0), (3, 0), (3, 0), (3, 0)] [] h1 = some ((0, r), h2) ∧ Inv h2
def Op_root (Inv : AM → Prop) : Prop := ∀ (d : Nat) (h : AM), Inv h → ∃ r h1 h2, EV (d + 60) 149 0 [(2, 0), (3, 0), (3, 0), (3, 0), (3, 0)] [] h = some ((0, r), h1) ∧ EV (d + 60) 305 0 [(2, 235), (3, 0), (3, 0), (3, 0), (3, 0), (3, 0)] [] h1 = some ((0, r), h2) ∧ Inv h2
def Op_plans (Inv : AM → Prop) : Prop := ∀ (d : Nat) (h : AM), Inv h → ∃ r h1 h2, EV (d + 60) 150 0 [(2, 0), (3, 0), (3, 0)] [] h = some ((0, r), h1) ∧ EV (d + 60) 309 0 [(2, 235), (3, 0), (3, 0), (3, 0)] [] h1 = some ((0, r), h2) ∧ Inv h2
def Op_waited (Inv : AM → Prop) : Prop := ∀ (d : Nat) (h : AM) (a0 : Int), Inv h → in32 a0 → ∃ r h1 h2, EV (d + 60) 151 0 [(2, 0), (0, a0)] [] h = some ((0, r), h1) ∧ EV (d + 60) 310 0 [(2, 235), (0, a0)] [] h1 = some ((0, r), h2) ∧ Inv h2
def Op_began (Inv : AM → Prop) : Prop := ∀ (d : Nat) (h : AM) (a0 a1 : Int), Inv h → in32 a0 → in32 a1 → ∃ r h1 h2, EV (d + 60) 152 0 [(2, 0), (0, a0), (0, a1)] [] h = some ((0, r), h1) ∧ EV (d + 60) 311 0 [(2, 235), (0, a0), (0, a1)] [] h1 = some ((0, r), h2) ∧ Inv h2
def Op_live (Inv : AM → Prop) : Prop := ∀ (d : Nat) (h : AM) (a0 : Int), Inv h → in32 a0 → ∃ r h1 h2, EV (d + 60) 153 0 [(2, 0), (0, a0)] [] h = some ((0, r), h1) ∧ EV (d + 60) 321 0 [(2, 235), (0, a0)] [] h1 = some ((0, r), h2) ∧ Inv h2
def Op_lived (Inv : AM → Prop) : Prop := ∀ (d : Nat) (h : AM) (a0 : Int), Inv h → in32 a0 → ∃ r h1 h2, EV (d + 60) 154 0 [(2, 0), (0, a0)] [] h = some ((0, r), h1) ∧ EV (d + 60) 322 0 [(2, 235), (0, a0)] [] h1 = some ((0, r), h2) ∧ Inv h2
def Op_odds (Inv : AM → Prop) : Prop := ∀ (d : Nat) (h : AM) (a0 a1 a2 : Int), Inv h → in32 a0 → in32 a1 → in32 a2 → ∃ r h1 h2, EV (d + 60) 155 0 [(2, 0), (0, a0), (0, a1), (0, a2), (3, 0), (3, 0)] [] h = some ((0, r), h1) ∧ EV (d + 60) 323 0 [(2, 235), (0, a0), (0, a1), (0, a2), (3, 0), (3, 0), (3, 0)] [] h1 = some ((0, r), h2) ∧ Inv h2
def Op_mark (Inv : AM → Prop) : Prop := ∀ (d : Nat) (h : AM), Inv h → ∃ r h1 h2, EV (d + 60) 156 0 [(2, 0)] [] h = some ((0, r), h1) ∧ EV (d + 60) 325 0 [(2, 235)] [] h1 = some ((0, r), h2) ∧ Inv h2
def Op_back (Inv : AM → Prop) : Prop := ∀ (d : Nat) (h : AM), Inv h → ∃ r h1 h2, EV (d + 60) 157 0 [(2, 0)] [] h = some ((0, r), h1) ∧ EV (d + 60) 326 0 [(2, 235)] [] h1 = some ((0, r), h2) ∧ Inv h2
/-- what the loop needs of an invariant -/
def Base (Inv : AM → Prop) : Prop := ∀ h, Inv h → isK h 0 10 ∧ isK h 235 11 ∧ (∀ j, in32 (msc h j)) ∧ 0 ≤ mscl h ∧ mscl h ≤ 3072
theorem sc_of {h h' : AM} (e : h'.2.2.2.2 = h.2.2.2.2) : (∀ j, msc h' j = msc h j) ∧ mscl h' = mscl h := ⟨fun j => by unfold msc; rw [e], by unfold mscl; rw [e]⟩
theorem cmp3_self (a : Int) : cmp3 a a = 0 := by unfold cmp3; rw [if_neg (by omega), if_pos rfl]
theorem in64_or (a b : Int) : in64 (l_or a b) := in64_toInt _
set_option maxRecDepth 100000 in
set_option maxHeartbeats 4000000 in
theorem law_status {Inv : AM → Prop} (hB : Base Inv) (hop : Op_status Inv) {d : Nat} {i : Int} {h : AM} (hI : Inv h) (h0 : 0 ≤ i) (h6 : i + 6 ≤ mscl h) : ∃ h2, Inv h2 ∧ h2.2.2.2.2 = h.2.2.2.2 ∧ EV (d + 61) 332 264 [(2, -2), (2, 0), (2, 235), (0, i)] [] h = EV (d + 61) 332 1842 [(2, -2), (2, 0), (2, 235), (0, i)] [] h2 := by
    obtain ⟨k0, km, hx, l0, l1⟩ := hB h hI
    obtain ⟨r, h1, h2, e1, e2, hI2⟩ := hop d h  hI 
    have s1 := EV_sc e1
    have s2 := EV_sc e2
    obtain ⟨t1, t2⟩ := sc_of s1
    have km1 := EV_isK e1 km
    refine ⟨h2, hI2, s2.trans s1, ?_⟩
    simp only [e332_264, e332_265, e332_268, e332_269, e332_272, e332_275, e332_276, e1, e2, t1, t2, k0, km, km1, psh0, psh1, cmp3_self, Option.bind_some, List.length_nil, List.length_cons, Nat.reduceAdd, Nat.reduceLeDiff, Nat.zero_le, if_true, eq_self]
set_option maxRecDepth 100000 in
set_option maxHeartbeats 4000000 in
theorem law_top {Inv : AM → Prop} (hB : Base Inv) (hop : Op_top Inv) {d : Nat} {i : Int} {h : AM} (hI : Inv h) (h0 : 0 ≤ i) (h6 : i + 6 ≤ mscl h) : ∃ h2, Inv h2 ∧ h2.2.2.2.2 = h.2.2.2.2 ∧ EV (d + 61) 332 277 [(2, -2), (2, 0), (2, 235), (0, i)] [] h = EV (d + 61) 332 1842 [(2, -2), (2, 0), (2, 235), (0, i)] [] h2 := by
    obtain ⟨k0, km, hx, l0, l1⟩ := hB h hI
    obtain ⟨r, h1, h2, e1, e2, hI2⟩ := hop d h  hI 
    have s1 := EV_sc e1
    have s2 := EV_sc e2
    obtain ⟨t1, t2⟩ := sc_of s1
    have km1 := EV_isK e1 km
    refine ⟨h2, hI2, s2.trans s1, ?_⟩
    simp only [e332_277, e332_278, e332_281, e332_282, e332_285, e332_286, e332_289, e332_290, e1, e2, t1, t2, k0, km, km1, psh0, psh1, cmp3_self, Option.bind_some, List.length_nil, List.length_cons, Nat.reduceAdd, Nat.reduceLeDiff, Nat.zero_le, if_true, eq_self]
set_option maxRecDepth 100000 in
set_option maxHeartbeats 4000000 in
theorem law_bottom {Inv : AM → Prop} (hB : Base Inv) (hop : Op_bottom Inv) {d : Nat} {i : Int} {h : AM} (hI : Inv h) (h0 : 0 ≤ i) (h6 : i + 6 ≤ mscl h) : ∃ h2, Inv h2 ∧ h2.2.2.2.2 = h.2.2.2.2 ∧ EV (d + 61) 332 291 [(2, -2), (2, 0), (2, 235), (0, i)] [] h = EV (d + 61) 332 1842 [(2, -2), (2, 0), (2, 235), (0, i)] [] h2 := by
    obtain ⟨k0, km, hx, l0, l1⟩ := hB h hI
    obtain ⟨r, h1, h2, e1, e2, hI2⟩ := hop d h  hI 
    have s1 := EV_sc e1
    have s2 := EV_sc e2
    obtain ⟨t1, t2⟩ := sc_of s1
    have km1 := EV_isK e1 km
    refine ⟨h2, hI2, s2.trans s1, ?_⟩
    simp only [e332_291, e332_292, e332_295, e332_296, e332_299, e332_300, e332_303, e332_304, e1, e2, t1, t2, k0, km, km1, psh0, psh1, cmp3_self, Option.bind_some, List.length_nil, List.length_cons, Nat.reduceAdd, Nat.reduceLeDiff, Nat.zero_le, if_true, eq_self]
set_option maxRecDepth 100000 in
set_option maxHeartbeats 4000000 in
theorem law_tray {Inv : AM → Prop} (hB : Base Inv) (hop : Op_tray Inv) {d : Nat} {i : Int} {h : AM} (hI : Inv h) (h0 : 0 ≤ i) (h6 : i + 6 ≤ mscl h) : ∃ h2, Inv h2 ∧ h2.2.2.2.2 = h.2.2.2.2 ∧ EV (d + 61) 332 305 [(2, -2), (2, 0), (2, 235), (0, i)] [] h = EV (d + 61) 332 1842 [(2, -2), (2, 0), (2, 235), (0, i)] [] h2 := by
    obtain ⟨k0, km, hx, l0, l1⟩ := hB h hI
    obtain ⟨r, h1, h2, e1, e2, hI2⟩ := hop d h (msc h (i + 1)) (msc h (i + 2)) (msc h (i + 3)) hI (hx _) (hx _) (hx _)
    have s1 := EV_sc e1
    have s2 := EV_sc e2
    obtain ⟨t1, t2⟩ := sc_of s1
    have km1 := EV_isK e1 km
    have w1 : w32 (i + 1) = i + 1 := w32_id (by omega) (by omega)
    have w2 : w32 (i + 2) = i + 2 := w32_id (by omega) (by omega)
    have w3 : w32 (i + 3) = i + 3 := w32_id (by omega) (by omega)
    have p1 : 0 ≤ i + 1 := by omega
    have q1 : i + 1 < mscl h := by omega
    have p2 : 0 ≤ i + 2 := by omega
    have q2 : i + 2 < mscl h := by omega
    have p3 : 0 ≤ i + 3 := by omega
    have q3 : i + 3 < mscl h := by omega
    refine ⟨h2, hI2, s2.trans s1, ?_⟩
    simp only [e332_305, e332_306, e332_307, e332_308, e332_309, e332_310s, e332_311, e332_312, e332_313, e332_314, e332_315s, e332_316, e332_317, e332_318, e332_319, e332_320s, e332_321, e332_324, e332_325, e332_326, e332_327, e332_328, e332_329s, e332_330, e332_331, e332_332, e332_333, e332_334s, e332_335, e332_336, e332_337, e332_338, e332_339s, e332_340, e332_343, e332_346, e332_347, e1, e2, t1, t2, k0, km, km1, w1, p1, q1, w2, p2, q2, w3, p3, q3, psh0, psh1, cmp3_self, Option.bind_some, List.length_nil, List.length_cons, Nat.reduceAdd, Nat.reduceLeDiff, Nat.zero_le, if_true, eq_self]
set_option maxRecDepth 100000 in
set_option maxHeartbeats 4000000 in
theorem law_write {Inv : AM → Prop} (hB : Base Inv) (hop : Op_write Inv) {d : Nat} {i : Int} {h : AM} (hI : Inv h) (h0 : 0 ≤ i) (h6 : i + 6 ≤ mscl h) : ∃ h2, Inv h2 ∧ h2.2.2.2.2 = h.2.2.2.2 ∧ EV (d + 61) 332 348 [(2, -2), (2, 0), (2, 235), (0, i)] [] h = EV (d + 61) 332 1842 [(2, -2), (2, 0), (2, 235), (0, i)] [] h2 := by
    obtain ⟨k0, km, hx, l0, l1⟩ := hB h hI
    obtain ⟨r, h1, h2, e1, e2, hI2⟩ := hop d h (msc h (i + 1)) (msc h (i + 2)) (l_or (l_shl (msc h (i + 3)) 32) (l_and (msc h (i + 4)) 4294967295)) hI (hx _) (hx _) (in64_or _ _)
    have s1 := EV_sc e1
    have s2 := EV_sc e2
    obtain ⟨t1, t2⟩ := sc_of s1
    have km1 := EV_isK e1 km
    have w1 : w32 (i + 1) = i + 1 := w32_id (by omega) (by omega)
    have w2 : w32 (i + 2) = i + 2 := w32_id (by omega) (by omega)
    have w3 : w32 (i + 3) = i + 3 := w32_id (by omega) (by omega)
    have w4 : w32 (i + 4) = i + 4 := w32_id (by omega) (by omega)
    have p1 : 0 ≤ i + 1 := by omega
    have q1 : i + 1 < mscl h := by omega
    have p2 : 0 ≤ i + 2 := by omega
    have q2 : i + 2 < mscl h := by omega
    have p3 : 0 ≤ i + 3 := by omega
    have q3 : i + 3 < mscl h := by omega
    have p4 : 0 ≤ i + 4 := by omega
    have q4 : i + 4 < mscl h := by omega
    refine ⟨h2, hI2, s2.trans s1, ?_⟩
    simp only [e332_348, e332_349, e332_350, e332_351, e332_352, e332_353s, e332_354, e332_355, e332_356, e332_357, e332_358s, e332_359, e332_360, e332_361, e332_362, e332_363s, e332_364, e332_365, e332_367, e332_368, e332_369, e332_370, e332_371, e332_372s, e332_373, e332_374, e332_377, e332_378, e332_379, e332_382, e332_383, e332_384, e332_385, e332_386, e332_387s, e332_388, e332_389, e332_390, e332_391, e332_392s, e332_393, e332_394, e332_395, e332_396, e332_397s, e332_398, e332_399, e332_401, e332_402, e332_403, e332_404, e332_405, e332_406s, e332_407, e332_408, e332_411, e332_412, e332_413, e332_416, e332_419, e332_420, e1, e2, t1, t2, k0, km, km1, w1, p1, q1, w2, p2, q2, w3, p3, q3, w4, p4, q4, psh0, psh1, cmp3_self, Option.bind_some, List.length_nil, List.length_cons, Nat.reduceAdd, Nat.reduceLeDiff, Nat.zero_le, if_true, eq_self]
set_option maxRecDepth 100000 in
set_option maxHeartbeats 4000000 in
theorem law_read {Inv : AM → Prop} (hB : Base Inv) (hop : Op_read Inv) {d : Nat} {i : Int} {h : AM} (hI : Inv h) (h0 : 0 ≤ i) (h6 : i + 6 ≤ mscl h) : ∃ h2, Inv h2 ∧ h2.2.2.2.2 = h.2.2.2.2 ∧ EV (d + 61) 332 421 [(2, -2), (2, 0), (2, 235), (0, i)] [] h = EV (d + 61) 332 1842 [(2, -2), (2, 0), (2, 235), (0, i)] [] h2 := by
    obtain ⟨k0, km, hx, l0, l1⟩ := hB h hI
    obtain ⟨r, h1, h2, e1, e2, hI2⟩ := hop d h (msc h (i + 1)) (msc h (i + 2)) hI (hx _) (hx _)
    have s1 := EV_sc e1
    have s2 := EV_sc e2
    obtain ⟨t1, t2⟩ := sc_of s1
    have km1 := EV_isK e1 km
    have w1 : w32 (i + 1) = i + 1 := w32_id (by omega) (by omega)
    have w2 : w32 (i + 2) = i + 2 := w32_id (by omega) (by omega)
    have p1 : 0 ≤ i + 1 := by omega
    have q1 : i + 1 < mscl h := by omega
    have p2 : 0 ≤ i + 2 := by omega
    have q2 : i + 2 < mscl h := by omega
    refine ⟨h2, hI2, s2.trans s1, ?_⟩
    simp only [e332_421, e332_422, e332_423, e332_424, e332_425, e332_426s, e332_427, e332_428, e332_429, e332_430, e332_431s, e332_432, e332_435, e332_436, e332_437, e332_438, e332_439, e332_440s, e332_441, e332_442, e332_443, e332_444, e332_445s, e332_446, e332_449, e332_450, e332_453, e332_454, e1, e2, t1, t2, k0, km, km1, w1, p1, q1, w2, p2, q2, psh0, psh1, cmp3_self, Option.bind_some, List.length_nil, List.length_cons, Nat.reduceAdd, Nat.reduceLeDiff, Nat.zero_le, if_true, eq_self]
set_option maxRecDepth 100000 in
set_option maxHeartbeats 4000000 in
theorem law_pour {Inv : AM → Prop} (hB : Base Inv) (hop : Op_pour Inv) {d : Nat} {i : Int} {h : AM} (hI : Inv h) (h0 : 0 ≤ i) (h6 : i + 6 ≤ mscl h) : ∃ h2, Inv h2 ∧ h2.2.2.2.2 = h.2.2.2.2 ∧ EV (d + 61) 332 455 [(2, -2), (2, 0), (2, 235), (0, i)] [] h = EV (d + 61) 332 1842 [(2, -2), (2, 0), (2, 235), (0, i)] [] h2 := by
    obtain ⟨k0, km, hx, l0, l1⟩ := hB h hI
    obtain ⟨r, h1, h2, e1, e2, hI2⟩ := hop d h (msc h (i + 1)) (msc h (i + 2)) (msc h (i + 3)) (msc h (i + 4)) (msc h (i + 5)) hI (hx _) (hx _) (hx _) (hx _) (hx _)
    have s1 := EV_sc e1
    have s2 := EV_sc e2
    obtain ⟨t1, t2⟩ := sc_of s1
    have km1 := EV_isK e1 km
    have w1 : w32 (i + 1) = i + 1 := w32_id (by omega) (by omega)
    have w2 : w32 (i + 2) = i + 2 := w32_id (by omega) (by omega)
    have w3 : w32 (i + 3) = i + 3 := w32_id (by omega) (by omega)
    have w4 : w32 (i + 4) = i + 4 := w32_id (by omega) (by omega)
    have w5 : w32 (i + 5) = i + 5 := w32_id (by omega) (by omega)
    have p1 : 0 ≤ i + 1 := by omega
    have q1 : i + 1 < mscl h := by omega
    have p2 : 0 ≤ i + 2 := by omega
    have q2 : i + 2 < mscl h := by omega
    have p3 : 0 ≤ i + 3 := by omega
    have q3 : i + 3 < mscl h := by omega
    have p4 : 0 ≤ i + 4 := by omega
    have q4 : i + 4 < mscl h := by omega
    have p5 : 0 ≤ i + 5 := by omega
    have q5 : i + 5 < mscl h := by omega
    refine ⟨h2, hI2, s2.trans s1, ?_⟩
    simp only [e332_455, e332_456, e332_457, e332_458, e332_459, e332_460s, e332_461, e332_462, e332_463, e332_464, e332_465s, e332_466, e332_467, e332_468, e332_469, e332_470s, e332_471, e332_472, e332_473, e332_474, e332_475s, e332_476, e332_477, e332_478, e332_479, e332_480s, e332_481, e332_484, e332_485, e332_486, e332_487, e332_488, e332_489s, e332_490, e332_491, e332_492, e332_493, e332_494s, e332_495, e332_496, e332_497, e332_498, e332_499s, e332_500, e332_501, e332_502, e332_503, e332_504s, e332_505, e332_506, e332_507, e332_508, e332_509s, e332_510, e332_513, e332_516, e332_517, e1, e2, t1, t2, k0, km, km1, w1, p1, q1, w2, p2, q2, w3, p3, q3, w4, p4, q4, w5, p5, q5, psh0, psh1, cmp3_self, Option.bind_some, List.length_nil, List.length_cons, Nat.reduceAdd, Nat.reduceLeDiff, Nat.zero_le, if_true, eq_self]
set_option maxRecDepth 100000 in
set_option maxHeartbeats 4000000 in
theorem law_feed {Inv : AM → Prop} (hB : Base Inv) (hop : Op_feed Inv) {d : Nat} {i : Int} {h : AM} (hI : Inv h) (h0 : 0 ≤ i) (h6 : i + 6 ≤ mscl h) : ∃ h2, Inv h2 ∧ h2.2.2.2.2 = h.2.2.2.2 ∧ EV (d + 61) 332 518 [(2, -2), (2, 0), (2, 235), (0, i)] [] h = EV (d + 61) 332 1842 [(2, -2), (2, 0), (2, 235), (0, i)] [] h2 := by
    obtain ⟨k0, km, hx, l0, l1⟩ := hB h hI
    obtain ⟨r, h1, h2, e1, e2, hI2⟩ := hop d h (msc h (i + 1)) (msc h (i + 2)) (msc h (i + 3)) (msc h (i + 4)) (msc h (i + 5)) hI (hx _) (hx _) (hx _) (hx _) (hx _)
    have s1 := EV_sc e1
    have s2 := EV_sc e2
    obtain ⟨t1, t2⟩ := sc_of s1
    have km1 := EV_isK e1 km
    have w1 : w32 (i + 1) = i + 1 := w32_id (by omega) (by omega)
    have w2 : w32 (i + 2) = i + 2 := w32_id (by omega) (by omega)
    have w3 : w32 (i + 3) = i + 3 := w32_id (by omega) (by omega)
    have w4 : w32 (i + 4) = i + 4 := w32_id (by omega) (by omega)
    have w5 : w32 (i + 5) = i + 5 := w32_id (by omega) (by omega)
    have p1 : 0 ≤ i + 1 := by omega
    have q1 : i + 1 < mscl h := by omega
    have p2 : 0 ≤ i + 2 := by omega
    have q2 : i + 2 < mscl h := by omega
    have p3 : 0 ≤ i + 3 := by omega
    have q3 : i + 3 < mscl h := by omega
    have p4 : 0 ≤ i + 4 := by omega
    have q4 : i + 4 < mscl h := by omega
    have p5 : 0 ≤ i + 5 := by omega
    have q5 : i + 5 < mscl h := by omega
    refine ⟨h2, hI2, s2.trans s1, ?_⟩
    simp only [e332_518, e332_519, e332_520, e332_521, e332_522, e332_523s, e332_524, e332_525, e332_526, e332_527, e332_528s, e332_529, e332_530, e332_531, e332_532, e332_533s, e332_534, e332_535, e332_536, e332_537, e332_538s, e332_539, e332_540, e332_541, e332_542, e332_543s, e332_544, e332_547, e332_548, e332_549, e332_550, e332_551, e332_552s, e332_553, e332_554, e332_555, e332_556, e332_557s, e332_558, e332_559, e332_560, e332_561, e332_562s, e332_563, e332_564, e332_565, e332_566, e332_567s, e332_568, e332_569, e332_570, e332_571, e332_572s, e332_573, e332_576, e332_579, e332_580, e1, e2, t1, t2, k0, km, km1, w1, p1, q1, w2, p2, q2, w3, p3, q3, w4, p4, q4, w5, p5, q5, psh0, psh1, cmp3_self, Option.bind_some, List.length_nil, List.length_cons, Nat.reduceAdd, Nat.reduceLeDiff, Nat.zero_le, if_true, eq_self]
set_option maxRecDepth 100000 in
set_option maxHeartbeats 4000000 in
theorem law_school {Inv : AM → Prop} (hB : Base Inv) (hop : Op_school Inv) {d : Nat} {i : Int} {h : AM} (hI : Inv h) (h0 : 0 ≤ i) (h6 : i + 6 ≤ mscl h) : ∃ h2, Inv h2 ∧ h2.2.2.2.2 = h.2.2.2.2 ∧ EV (d + 61) 332 581 [(2, -2), (2, 0), (2, 235), (0, i)] [] h = EV (d + 61) 332 1842 [(2, -2), (2, 0), (2, 235), (0, i)] [] h2 := by
    obtain ⟨k0, km, hx, l0, l1⟩ := hB h hI
    obtain ⟨r, h1, h2, e1, e2, hI2⟩ := hop d h (msc h (i + 1)) hI (hx _)
    have s1 := EV_sc e1
    have s2 := EV_sc e2
    obtain ⟨t1, t2⟩ := sc_of s1
    have km1 := EV_isK e1 km
    have w1 : w32 (i + 1) = i + 1 := w32_id (by omega) (by omega)
    have p1 : 0 ≤ i + 1 := by omega
    have q1 : i + 1 < mscl h := by omega
    refine ⟨h2, hI2, s2.trans s1, ?_⟩
    simp only [e332_581, e332_582, e332_583, e332_584, e332_585, e332_586s, e332_587, e332_590, e332_591, e332_592, e332_593, e332_594, e332_595s, e332_596, e332_599, e332_602, e332_603, e1, e2, t1, t2, k0, km, km1, w1, p1, q1, psh0, psh1, cmp3_self, Option.bind_some, List.length_nil, List.length_cons, Nat.reduceAdd, Nat.reduceLeDiff, Nat.zero_le, if_true, eq_self]
set_option maxRecDepth 100000 in
set_option maxHeartbeats 4000000 in
theorem law_age {Inv : AM → Prop} (hB : Base Inv) (hop : Op_age Inv) {d : Nat} {i : Int} {h : AM} (hI : Inv h) (h0 : 0 ≤ i) (h6 : i + 6 ≤ mscl h) : ∃ h2, Inv h2 ∧ h2.2.2.2.2 = h.2.2.2.2 ∧ EV (d + 61) 332 604 [(2, -2), (2, 0), (2, 235), (0, i)] [] h = EV (d + 61) 332 1842 [(2, -2), (2, 0), (2, 235), (0, i)] [] h2 := by
    obtain ⟨k0, km, hx, l0, l1⟩ := hB h hI
    obtain ⟨r, h1, h2, e1, e2, hI2⟩ := hop d h (msc h (i + 1)) hI (hx _)
    have s1 := EV_sc e1
    have s2 := EV_sc e2
    obtain ⟨t1, t2⟩ := sc_of s1
    have km1 := EV_isK e1 km
    have w1 : w32 (i + 1) = i + 1 := w32_id (by omega) (by omega)
    have p1 : 0 ≤ i + 1 := by omega
    have q1 : i + 1 < mscl h := by omega
    refine ⟨h2, hI2, s2.trans s1, ?_⟩
    simp only [e332_604, e332_605, e332_606, e332_607, e332_608, e332_609s, e332_610, e332_613, e332_614, e332_615, e332_616, e332_617, e332_618s, e332_619, e332_622, e332_625, e332_626, e1, e2, t1, t2, k0, km, km1, w1, p1, q1, psh0, psh1, cmp3_self, Option.bind_some, List.length_nil, List.length_cons, Nat.reduceAdd, Nat.reduceLeDiff, Nat.zero_le, if_true, eq_self]
set_option maxRecDepth 100000 in
set_option maxHeartbeats 4000000 in
theorem law_fault {Inv : AM → Prop} (hB : Base Inv) (hop : Op_fault Inv) {d : Nat} {i : Int} {h : AM} (hI : Inv h) (h0 : 0 ≤ i) (h6 : i + 6 ≤ mscl h) : ∃ h2, Inv h2 ∧ h2.2.2.2.2 = h.2.2.2.2 ∧ EV (d + 61) 332 627 [(2, -2), (2, 0), (2, 235), (0, i)] [] h = EV (d + 61) 332 1842 [(2, -2), (2, 0), (2, 235), (0, i)] [] h2 := by
    obtain ⟨k0, km, hx, l0, l1⟩ := hB h hI
    obtain ⟨r, h1, h2, e1, e2, hI2⟩ := hop d h (msc h (i + 1)) hI (hx _)
    have s1 := EV_sc e1
    have s2 := EV_sc e2
    obtain ⟨t1, t2⟩ := sc_of s1
    have km1 := EV_isK e1 km
    have w1 : w32 (i + 1) = i + 1 := w32_id (by omega) (by omega)
    have p1 : 0 ≤ i + 1 := by omega
    have q1 : i + 1 < mscl h := by omega
    refine ⟨h2, hI2, s2.trans s1, ?_⟩
    simp only [e332_627, e332_628, e332_629, e332_630, e332_631, e332_632s, e332_633, e332_636, e332_637, e332_638, e332_639, e332_640, e332_641s, e332_642, e332_645, e332_648, e332_649, e1, e2, t1, t2, k0, km, km1, w1, p1, q1, psh0, psh1, cmp3_self, Option.bind_some, List.length_nil, List.length_cons, Nat.reduceAdd, Nat.reduceLeDiff, Nat.zero_le, if_true, eq_self]
set_option maxRecDepth 100000 in
set_option maxHeartbeats 4000000 in
theorem law_many {Inv : AM → Prop} (hB : Base Inv) (hop : Op_many Inv) {d : Nat} {i : Int} {h : AM} (hI : Inv h) (h0 : 0 ≤ i) (h6 : i + 6 ≤ mscl h) : ∃ h2, Inv h2 ∧ h2.2.2.2.2 = h.2.2.2.2 ∧ EV (d + 61) 332 650 [(2, -2), (2, 0), (2, 235), (0, i)] [] h = EV (d + 61) 332 1842 [(2, -2), (2, 0), (2, 235), (0, i)] [] h2 := by
    obtain ⟨k0, km, hx, l0, l1⟩ := hB h hI
    obtain ⟨r, h1, h2, e1, e2, hI2⟩ := hop d h (msc h (i + 1)) hI (hx _)
    have s1 := EV_sc e1
    have s2 := EV_sc e2
    obtain ⟨t1, t2⟩ := sc_of s1
    have km1 := EV_isK e1 km
    have w1 : w32 (i + 1) = i + 1 := w32_id (by omega) (by omega)
    have p1 : 0 ≤ i + 1 := by omega
    have q1 : i + 1 < mscl h := by omega
    refine ⟨h2, hI2, s2.trans s1, ?_⟩
    simp only [e332_650, e332_651, e332_652, e332_653, e332_654, e332_655s, e332_656, e332_659, e332_660, e332_661, e332_662, e332_663, e332_664s, e332_665, e332_668, e332_671, e332_672, e1, e2, t1, t2, k0, km, km1, w1, p1, q1, psh0, psh1, cmp3_self, Option.bind_some, List.length_nil, List.length_cons, Nat.reduceAdd, Nat.reduceLeDiff, Nat.zero_le, if_true, eq_self]
set_option maxRecDepth 100000 in
set_option maxHeartbeats 4000000 in
theorem law_lesson {Inv : AM → Prop} (hB : Base Inv) (hop : Op_lesson Inv) {d : Nat} {i : Int} {h : AM} (hI : Inv h) (h0 : 0 ≤ i) (h6 : i + 6 ≤ mscl h) : ∃ h2, Inv h2 ∧ h2.2.2.2.2 = h.2.2.2.2 ∧ EV (d + 61) 332 673 [(2, -2), (2, 0), (2, 235), (0, i)] [] h = EV (d + 61) 332 1842 [(2, -2), (2, 0), (2, 235), (0, i)] [] h2 := by
    obtain ⟨k0, km, hx, l0, l1⟩ := hB h hI
    obtain ⟨r, h1, h2, e1, e2, hI2⟩ := hop d h (msc h (i + 1)) (msc h (i + 2)) hI (hx _) (hx _)
    have s1 := EV_sc e1
    have s2 := EV_sc e2
    obtain ⟨t1, t2⟩ := sc_of s1
    have km1 := EV_isK e1 km
    have w1 : w32 (i + 1) = i + 1 := w32_id (by omega) (by omega)
    have w2 : w32 (i + 2) = i + 2 := w32_id (by omega) (by omega)
    have p1 : 0 ≤ i + 1 := by omega
    have q1 : i + 1 < mscl h := by omega
    have p2 : 0 ≤ i + 2 := by omega
    have q2 : i + 2 < mscl h := by omega
    refine ⟨h2, hI2, s2.trans s1, ?_⟩
    simp only [e332_673, e332_674, e332_675, e332_676, e332_677, e332_678s, e332_679, e332_680, e332_681, e332_682, e332_683s, e332_684, e332_687, e332_688, e332_689, e332_690, e332_691, e332_692s, e332_693, e332_694, e332_695, e332_696, e332_697s, e332_698, e332_701, e332_704, e332_705, e1, e2, t1, t2, k0, km, km1, w1, p1, q1, w2, p2, q2, psh0, psh1, cmp3_self, Option.bind_some, List.length_nil, List.length_cons, Nat.reduceAdd, Nat.reduceLeDiff, Nat.zero_le, if_true, eq_self]
set_option maxRecDepth 100000 in
set_option maxHeartbeats 4000000 in
theorem law_child {Inv : AM → Prop} (hB : Base Inv) (hop : Op_child Inv) {d : Nat} {i : Int} {h : AM} (hI : Inv h) (h0 : 0 ≤ i) (h6 : i + 6 ≤ mscl h) : ∃ h2, Inv h2 ∧ h2.2.2.2.2 = h.2.2.2.2 ∧ EV (d + 61) 332 706 [(2, -2), (2, 0), (2, 235), (0, i)] [] h = EV (d + 61) 332 1842 [(2, -2), (2, 0), (2, 235), (0, i)] [] h2 := by
    obtain ⟨k0, km, hx, l0, l1⟩ := hB h hI
    obtain ⟨r, h1, h2, e1, e2, hI2⟩ := hop d h (msc h (i + 1)) (msc h (i + 2)) hI (hx _) (hx _)
    have s1 := EV_sc e1
    have s2 := EV_sc e2
    obtain ⟨t1, t2⟩ := sc_of s1
    have km1 := EV_isK e1 km
    have w1 : w32 (i + 1) = i + 1 := w32_id (by omega) (by omega)
    have w2 : w32 (i + 2) = i + 2 := w32_id (by omega) (by omega)
    have p1 : 0 ≤ i + 1 := by omega
    have q1 : i + 1 < mscl h := by omega
    have p2 : 0 ≤ i + 2 := by omega
    have q2 : i + 2 < mscl h := by omega
    refine ⟨h2, hI2, s2.trans s1, ?_⟩
    simp only [e332_706, e332_707, e332_708, e332_709, e332_710, e332_711s, e332_712, e332_713, e332_714, e332_715, e332_716s, e332_717, e332_720, e332_721, e332_722, e332_723, e332_724, e332_725s, e332_726, e332_727, e332_728, e332_729, e332_730s, e332_731, e332_734, e332_737, e332_738, e1, e2, t1, t2, k0, km, km1, w1, p1, q1, w2, p2, q2, psh0, psh1, cmp3_self, Option.bind_some, List.length_nil, List.length_cons, Nat.reduceAdd, Nat.reduceLeDiff, Nat.zero_le, if_true, eq_self]
set_option maxRecDepth 100000 in
set_option maxHeartbeats 4000000 in
theorem law_letter {Inv : AM → Prop} (hB : Base Inv) (hop : Op_letter Inv) {d : Nat} {i : Int} {h : AM} (hI : Inv h) (h0 : 0 ≤ i) (h6 : i + 6 ≤ mscl h) : ∃ h2, Inv h2 ∧ h2.2.2.2.2 = h.2.2.2.2 ∧ EV (d + 61) 332 739 [(2, -2), (2, 0), (2, 235), (0, i)] [] h = EV (d + 61) 332 1842 [(2, -2), (2, 0), (2, 235), (0, i)] [] h2 := by
    obtain ⟨k0, km, hx, l0, l1⟩ := hB h hI
    obtain ⟨r, h1, h2, e1, e2, hI2⟩ := hop d h (msc h (i + 1)) (msc h (i + 2)) (msc h (i + 3)) hI (hx _) (hx _) (hx _)
    have s1 := EV_sc e1
    have s2 := EV_sc e2
    obtain ⟨t1, t2⟩ := sc_of s1
    have km1 := EV_isK e1 km
    have w1 : w32 (i + 1) = i + 1 := w32_id (by omega) (by omega)
    have w2 : w32 (i + 2) = i + 2 := w32_id (by omega) (by omega)
    have w3 : w32 (i + 3) = i + 3 := w32_id (by omega) (by omega)
    have p1 : 0 ≤ i + 1 := by omega
    have q1 : i + 1 < mscl h := by omega
    have p2 : 0 ≤ i + 2 := by omega
    have q2 : i + 2 < mscl h := by omega
    have p3 : 0 ≤ i + 3 := by omega
    have q3 : i + 3 < mscl h := by omega
    refine ⟨h2, hI2, s2.trans s1, ?_⟩
    simp only [e332_739, e332_740, e332_741, e332_742, e332_743, e332_744s, e332_745, e332_746, e332_747, e332_748, e332_749s, e332_750, e332_751, e332_752, e332_753, e332_754s, e332_755, e332_758, e332_759, e332_760, e332_761, e332_762, e332_763s, e332_764, e332_765, e332_766, e332_767, e332_768s, e332_769, e332_770, e332_771, e332_772, e332_773s, e332_774, e332_777, e332_780, e332_781, e1, e2, t1, t2, k0, km, km1, w1, p1, q1, w2, p2, q2, w3, p3, q3, psh0, psh1, cmp3_self, Option.bind_some, List.length_nil, List.length_cons, Nat.reduceAdd, Nat.reduceLeDiff, Nat.zero_le, if_true, eq_self]
set_option maxRecDepth 100000 in
set_option maxHeartbeats 4000000 in
theorem law_teaches {Inv : AM → Prop} (hB : Base Inv) (hop : Op_teaches Inv) {d : Nat} {i : Int} {h : AM} (hI : Inv h) (h0 : 0 ≤ i) (h6 : i + 6 ≤ mscl h) : ∃ h2, Inv h2 ∧ h2.2.2.2.2 = h.2.2.2.2 ∧ EV (d + 61) 332 782 [(2, -2), (2, 0), (2, 235), (0, i)] [] h = EV (d + 61) 332 1842 [(2, -2), (2, 0), (2, 235), (0, i)] [] h2 := by
    obtain ⟨k0, km, hx, l0, l1⟩ := hB h hI
    obtain ⟨r, h1, h2, e1, e2, hI2⟩ := hop d h (msc h (i + 1)) hI (hx _)
    have s1 := EV_sc e1
    have s2 := EV_sc e2
    obtain ⟨t1, t2⟩ := sc_of s1
    have km1 := EV_isK e1 km
    have w1 : w32 (i + 1) = i + 1 := w32_id (by omega) (by omega)
    have p1 : 0 ≤ i + 1 := by omega
    have q1 : i + 1 < mscl h := by omega
    refine ⟨h2, hI2, s2.trans s1, ?_⟩
    simp only [e332_782, e332_783, e332_784, e332_785, e332_786, e332_787s, e332_788, e332_791, e332_792, e332_793, e332_794, e332_795, e332_796s, e332_797, e332_800, e332_803, e332_804, e1, e2, t1, t2, k0, km, km1, w1, p1, q1, psh0, psh1, cmp3_self, Option.bind_some, List.length_nil, List.length_cons, Nat.reduceAdd, Nat.reduceLeDiff, Nat.zero_le, if_true, eq_self]
set_option maxRecDepth 100000 in
set_option maxHeartbeats 4000000 in
theorem law_copyName {Inv : AM → Prop} (hB : Base Inv) (hop : Op_copyName Inv) {d : Nat} {i : Int} {h : AM} (hI : Inv h) (h0 : 0 ≤ i) (h6 : i + 6 ≤ mscl h) : ∃ h2, Inv h2 ∧ h2.2.2.2.2 = h.2.2.2.2 ∧ EV (d + 61) 332 805 [(2, -2), (2, 0), (2, 235), (0, i)] [] h = EV (d + 61) 332 1842 [(2, -2), (2, 0), (2, 235), (0, i)] [] h2 := by
    obtain ⟨k0, km, hx, l0, l1⟩ := hB h hI
    obtain ⟨r, h1, h2, e1, e2, hI2⟩ := hop d h (msc h (i + 1)) (msc h (i + 2)) hI (hx _) (hx _)
    have s1 := EV_sc e1
    have s2 := EV_sc e2
    obtain ⟨t1, t2⟩ := sc_of s1
    have km1 := EV_isK e1 km
    have w1 : w32 (i + 1) = i + 1 := w32_id (by omega) (by omega)
    have w2 : w32 (i + 2) = i + 2 := w32_id (by omega) (by omega)
    have p1 : 0 ≤ i + 1 := by omega
    have q1 : i + 1 < mscl h := by omega
    have p2 : 0 ≤ i + 2 := by omega
    have q2 : i + 2 < mscl h := by omega
    refine ⟨h2, hI2, s2.trans s1, ?_⟩
    simp only [e332_805, e332_806, e332_807, e332_808, e332_809, e332_810s, e332_811, e332_812, e332_813, e332_814, e332_815s, e332_816, e332_819, e332_820, e332_821, e332_822, e332_823, e332_824s, e332_825, e332_826, e332_827, e332_828, e332_829s, e332_830, e332_833, e332_836, e332_837, e1, e2, t1, t2, k0, km, km1, w1, p1, q1, w2, p2, q2, psh0, psh1, cmp3_self, Option.bind_some, List.length_nil, List.length_cons, Nat.reduceAdd, Nat.reduceLeDiff, Nat.zero_le, if_true, eq_self]
set_option maxRecDepth 100000 in
set_option maxHeartbeats 4000000 in
theorem law_learn {Inv : AM → Prop} (hB : Base Inv) (hop : Op_learn Inv) {d : Nat} {i : Int} {h : AM} (hI : Inv h) (h0 : 0 ≤ i) (h6 : i + 6 ≤ mscl h) : ∃ h2, Inv h2 ∧ h2.2.2.2.2 = h.2.2.2.2 ∧ EV (d + 61) 332 838 [(2, -2), (2, 0), (2, 235), (0, i)] [] h = EV (d + 61) 332 1842 [(2, -2), (2, 0), (2, 235), (0, i)] [] h2 := by
    obtain ⟨k0, km, hx, l0, l1⟩ := hB h hI
    obtain ⟨r, h1, h2, e1, e2, hI2⟩ := hop d h (msc h (i + 1)) (msc h (i + 2)) hI (hx _) (hx _)
    have s1 := EV_sc e1
    have s2 := EV_sc e2
    obtain ⟨t1, t2⟩ := sc_of s1
    have km1 := EV_isK e1 km
    have w1 : w32 (i + 1) = i + 1 := w32_id (by omega) (by omega)
    have w2 : w32 (i + 2) = i + 2 := w32_id (by omega) (by omega)
    have p1 : 0 ≤ i + 1 := by omega
    have q1 : i + 1 < mscl h := by omega
    have p2 : 0 ≤ i + 2 := by omega
    have q2 : i + 2 < mscl h := by omega
    refine ⟨h2, hI2, s2.trans s1, ?_⟩
    simp only [e332_838, e332_839, e332_840, e332_841, e332_842, e332_843s, e332_844, e332_845, e332_846, e332_847, e332_848s, e332_849, e332_852, e332_853, e332_854, e332_855, e332_856, e332_857s, e332_858, e332_859, e332_860, e332_861, e332_862s, e332_863, e332_866, e332_869, e332_870, e1, e2, t1, t2, k0, km, km1, w1, p1, q1, w2, p2, q2, psh0, psh1, cmp3_self, Option.bind_some, List.length_nil, List.length_cons, Nat.reduceAdd, Nat.reduceLeDiff, Nat.zero_le, if_true, eq_self]
set_option maxRecDepth 100000 in
set_option maxHeartbeats 4000000 in
theorem law_lose {Inv : AM → Prop} (hB : Base Inv) (hop : Op_lose Inv) {d : Nat} {i : Int} {h : AM} (hI : Inv h) (h0 : 0 ≤ i) (h6 : i + 6 ≤ mscl h) : ∃ h2, Inv h2 ∧ h2.2.2.2.2 = h.2.2.2.2 ∧ EV (d + 61) 332 871 [(2, -2), (2, 0), (2, 235), (0, i)] [] h = EV (d + 61) 332 1842 [(2, -2), (2, 0), (2, 235), (0, i)] [] h2 := by
    obtain ⟨k0, km, hx, l0, l1⟩ := hB h hI
    obtain ⟨r, h1, h2, e1, e2, hI2⟩ := hop d h (msc h (i + 1)) (msc h (i + 2)) hI (hx _) (hx _)
    have s1 := EV_sc e1
    have s2 := EV_sc e2
    obtain ⟨t1, t2⟩ := sc_of s1
    have km1 := EV_isK e1 km
    have w1 : w32 (i + 1) = i + 1 := w32_id (by omega) (by omega)
    have w2 : w32 (i + 2) = i + 2 := w32_id (by omega) (by omega)
    have p1 : 0 ≤ i + 1 := by omega
    have q1 : i + 1 < mscl h := by omega
    have p2 : 0 ≤ i + 2 := by omega
    have q2 : i + 2 < mscl h := by omega
    refine ⟨h2, hI2, s2.trans s1, ?_⟩
    simp only [e332_871, e332_872, e332_873, e332_874, e332_875, e332_876s, e332_877, e332_878, e332_879, e332_880, e332_881s, e332_882, e332_885, e332_886, e332_887, e332_888, e332_889, e332_890s, e332_891, e332_892, e332_893, e332_894, e332_895s, e332_896, e332_899, e332_902, e332_903, e1, e2, t1, t2, k0, km, km1, w1, p1, q1, w2, p2, q2, psh0, psh1, cmp3_self, Option.bind_some, List.length_nil, List.length_cons, Nat.reduceAdd, Nat.reduceLeDiff, Nat.zero_le, if_true, eq_self]
set_option maxRecDepth 100000 in
set_option maxHeartbeats 4000000 in
theorem law_rest {Inv : AM → Prop} (hB : Base Inv) (hop : Op_rest Inv) {d : Nat} {i : Int} {h : AM} (hI : Inv h) (h0 : 0 ≤ i) (h6 : i + 6 ≤ mscl h) : ∃ h2, Inv h2 ∧ h2.2.2.2.2 = h.2.2.2.2 ∧ EV (d + 61) 332 904 [(2, -2), (2, 0), (2, 235), (0, i)] [] h = EV (d + 61) 332 1842 [(2, -2), (2, 0), (2, 235), (0, i)] [] h2 := by
    obtain ⟨k0, km, hx, l0, l1⟩ := hB h hI
    obtain ⟨r, h1, h2, e1, e2, hI2⟩ := hop d h (msc h (i + 1)) (msc h (i + 2)) hI (hx _) (hx _)
    have s1 := EV_sc e1
    have s2 := EV_sc e2
    obtain ⟨t1, t2⟩ := sc_of s1
    have km1 := EV_isK e1 km
    have w1 : w32 (i + 1) = i + 1 := w32_id (by omega) (by omega)
    have w2 : w32 (i + 2) = i + 2 := w32_id (by omega) (by omega)
    have p1 : 0 ≤ i + 1 := by omega
    have q1 : i + 1 < mscl h := by omega
    have p2 : 0 ≤ i + 2 := by omega
    have q2 : i + 2 < mscl h := by omega
    refine ⟨h2, hI2, s2.trans s1, ?_⟩
    simp only [e332_904, e332_905, e332_906, e332_907, e332_908, e332_909s, e332_910, e332_911, e332_912, e332_913, e332_914s, e332_915, e332_918, e332_919, e332_920, e332_921, e332_922, e332_923s, e332_924, e332_925, e332_926, e332_927, e332_928s, e332_929, e332_932, e332_935, e332_936, e1, e2, t1, t2, k0, km, km1, w1, p1, q1, w2, p2, q2, psh0, psh1, cmp3_self, Option.bind_some, List.length_nil, List.length_cons, Nat.reduceAdd, Nat.reduceLeDiff, Nat.zero_le, if_true, eq_self]
set_option maxRecDepth 100000 in
set_option maxHeartbeats 4000000 in
theorem law_pay {Inv : AM → Prop} (hB : Base Inv) (hop : Op_pay Inv) {d : Nat} {i : Int} {h : AM} (hI : Inv h) (h0 : 0 ≤ i) (h6 : i + 6 ≤ mscl h) : ∃ h2, Inv h2 ∧ h2.2.2.2.2 = h.2.2.2.2 ∧ EV (d + 61) 332 937 [(2, -2), (2, 0), (2, 235), (0, i)] [] h = EV (d + 61) 332 1842 [(2, -2), (2, 0), (2, 235), (0, i)] [] h2 := by
    obtain ⟨k0, km, hx, l0, l1⟩ := hB h hI
    obtain ⟨r, h1, h2, e1, e2, hI2⟩ := hop d h (msc h (i + 1)) (msc h (i + 2)) hI (hx _) (hx _)
    have s1 := EV_sc e1
    have s2 := EV_sc e2
    obtain ⟨t1, t2⟩ := sc_of s1
    have km1 := EV_isK e1 km
    have w1 : w32 (i + 1) = i + 1 := w32_id (by omega) (by omega)
    have w2 : w32 (i + 2) = i + 2 := w32_id (by omega) (by omega)
    have p1 : 0 ≤ i + 1 := by omega
    have q1 : i + 1 < mscl h := by omega
    have p2 : 0 ≤ i + 2 := by omega
    have q2 : i + 2 < mscl h := by omega
    refine ⟨h2, hI2, s2.trans s1, ?_⟩
    simp only [e332_937, e332_938, e332_939, e332_940, e332_941, e332_942s, e332_943, e332_944, e332_945, e332_946, e332_947s, e332_948, e332_951, e332_952, e332_953, e332_954, e332_955, e332_956s, e332_957, e332_958, e332_959, e332_960, e332_961s, e332_962, e332_965, e332_968, e332_969, e1, e2, t1, t2, k0, km, km1, w1, p1, q1, w2, p2, q2, psh0, psh1, cmp3_self, Option.bind_some, List.length_nil, List.length_cons, Nat.reduceAdd, Nat.reduceLeDiff, Nat.zero_le, if_true, eq_self]
set_option maxRecDepth 100000 in
set_option maxHeartbeats 4000000 in
theorem law_ready {Inv : AM → Prop} (hB : Base Inv) (hop : Op_ready Inv) {d : Nat} {i : Int} {h : AM} (hI : Inv h) (h0 : 0 ≤ i) (h6 : i + 6 ≤ mscl h) : ∃ h2, Inv h2 ∧ h2.2.2.2.2 = h.2.2.2.2 ∧ EV (d + 61) 332 970 [(2, -2), (2, 0), (2, 235), (0, i)] [] h = EV (d + 61) 332 1842 [(2, -2), (2, 0), (2, 235), (0, i)] [] h2 := by
    obtain ⟨k0, km, hx, l0, l1⟩ := hB h hI
    obtain ⟨r, h1, h2, e1, e2, hI2⟩ := hop d h (msc h (i + 1)) (msc h (i + 2)) hI (hx _) (hx _)
    have s1 := EV_sc e1
    have s2 := EV_sc e2
    obtain ⟨t1, t2⟩ := sc_of s1
    have km1 := EV_isK e1 km
    have w1 : w32 (i + 1) = i + 1 := w32_id (by omega) (by omega)
    have w2 : w32 (i + 2) = i + 2 := w32_id (by omega) (by omega)
    have p1 : 0 ≤ i + 1 := by omega
    have q1 : i + 1 < mscl h := by omega
    have p2 : 0 ≤ i + 2 := by omega
    have q2 : i + 2 < mscl h := by omega
    refine ⟨h2, hI2, s2.trans s1, ?_⟩
    simp only [e332_970, e332_971, e332_972, e332_973, e332_974, e332_975s, e332_976, e332_977, e332_978, e332_979, e332_980s, e332_981, e332_984, e332_985, e332_986, e332_987, e332_988, e332_989s, e332_990, e332_991, e332_992, e332_993, e332_994s, e332_995, e332_998, e332_1001, e332_1002, e1, e2, t1, t2, k0, km, km1, w1, p1, q1, w2, p2, q2, psh0, psh1, cmp3_self, Option.bind_some, List.length_nil, List.length_cons, Nat.reduceAdd, Nat.reduceLeDiff, Nat.zero_le, if_true, eq_self]
set_option maxRecDepth 100000 in
set_option maxHeartbeats 4000000 in
theorem law_takes {Inv : AM → Prop} (hB : Base Inv) (hop : Op_takes Inv) {d : Nat} {i : Int} {h : AM} (hI : Inv h) (h0 : 0 ≤ i) (h6 : i + 6 ≤ mscl h) : ∃ h2, Inv h2 ∧ h2.2.2.2.2 = h.2.2.2.2 ∧ EV (d + 61) 332 1003 [(2, -2), (2, 0), (2, 235), (0, i)] [] h = EV (d + 61) 332 1842 [(2, -2), (2, 0), (2, 235), (0, i)] [] h2 := by
    obtain ⟨k0, km, hx, l0, l1⟩ := hB h hI
    obtain ⟨r, h1, h2, e1, e2, hI2⟩ := hop d h (msc h (i + 1)) (msc h (i + 2)) hI (hx _) (hx _)
    have s1 := EV_sc e1
    have s2 := EV_sc e2
    obtain ⟨t1, t2⟩ := sc_of s1
    have km1 := EV_isK e1 km
    have w1 : w32 (i + 1) = i + 1 := w32_id (by omega) (by omega)
    have w2 : w32 (i + 2) = i + 2 := w32_id (by omega) (by omega)
    have p1 : 0 ≤ i + 1 := by omega
    have q1 : i + 1 < mscl h := by omega
    have p2 : 0 ≤ i + 2 := by omega
    have q2 : i + 2 < mscl h := by omega
    refine ⟨h2, hI2, s2.trans s1, ?_⟩
    simp only [e332_1003, e332_1004, e332_1005, e332_1006, e332_1007, e332_1008s, e332_1009, e332_1010, e332_1011, e332_1012, e332_1013s, e332_1014, e332_1017, e332_1018, e332_1019, e332_1020, e332_1021, e332_1022s, e332_1023, e332_1024, e332_1025, e332_1026, e332_1027s, e332_1028, e332_1031, e332_1034, e332_1035, e1, e2, t1, t2, k0, km, km1, w1, p1, q1, w2, p2, q2, psh0, psh1, cmp3_self, Option.bind_some, List.length_nil, List.length_cons, Nat.reduceAdd, Nat.reduceLeDiff, Nat.zero_le, if_true, eq_self]
set_option maxRecDepth 100000 in
set_option maxHeartbeats 4000000 in
theorem law_opens {Inv : AM → Prop} (hB : Base Inv) (hop : Op_opens Inv) {d : Nat} {i : Int} {h : AM} (hI : Inv h) (h0 : 0 ≤ i) (h6 : i + 6 ≤ mscl h) : ∃ h2, Inv h2 ∧ h2.2.2.2.2 = h.2.2.2.2 ∧ EV (d + 61) 332 1036 [(2, -2), (2, 0), (2, 235), (0, i)] [] h = EV (d + 61) 332 1842 [(2, -2), (2, 0), (2, 235), (0, i)] [] h2 := by
    obtain ⟨k0, km, hx, l0, l1⟩ := hB h hI
    obtain ⟨r, h1, h2, e1, e2, hI2⟩ := hop d h (msc h (i + 1)) (msc h (i + 2)) hI (hx _) (hx _)
    have s1 := EV_sc e1
    have s2 := EV_sc e2
    obtain ⟨t1, t2⟩ := sc_of s1
    have km1 := EV_isK e1 km
    have w1 : w32 (i + 1) = i + 1 := w32_id (by omega) (by omega)
    have w2 : w32 (i + 2) = i + 2 := w32_id (by omega) (by omega)
    have p1 : 0 ≤ i + 1 := by omega
    have q1 : i + 1 < mscl h := by omega
    have p2 : 0 ≤ i + 2 := by omega
    have q2 : i + 2 < mscl h := by omega
    refine ⟨h2, hI2, s2.trans s1, ?_⟩
    simp only [e332_1036, e332_1037, e332_1038, e332_1039, e332_1040, e332_1041s, e332_1042, e332_1043, e332_1044, e332_1045, e332_1046s, e332_1047, e332_1050, e332_1051, e332_1052, e332_1053, e332_1054, e332_1055s, e332_1056, e332_1057, e332_1058, e332_1059, e332_1060s, e332_1061, e332_1064, e332_1067, e332_1068, e1, e2, t1, t2, k0, km, km1, w1, p1, q1, w2, p2, q2, psh0, psh1, cmp3_self, Option.bind_some, List.length_nil, List.length_cons, Nat.reduceAdd, Nat.reduceLeDiff, Nat.zero_le, if_true, eq_self]
set_option maxRecDepth 100000 in
set_option maxHeartbeats 4000000 in
theorem law_choice {Inv : AM → Prop} (hB : Base Inv) (hop : Op_choice Inv) {d : Nat} {i : Int} {h : AM} (hI : Inv h) (h0 : 0 ≤ i) (h6 : i + 6 ≤ mscl h) : ∃ h2, Inv h2 ∧ h2.2.2.2.2 = h.2.2.2.2 ∧ EV (d + 61) 332 1069 [(2, -2), (2, 0), (2, 235), (0, i)] [] h = EV (d + 61) 332 1842 [(2, -2), (2, 0), (2, 235), (0, i)] [] h2 := by
    obtain ⟨k0, km, hx, l0, l1⟩ := hB h hI
    obtain ⟨r, h1, h2, e1, e2, hI2⟩ := hop d h (msc h (i + 1)) hI (hx _)
    have s1 := EV_sc e1
    have s2 := EV_sc e2
    obtain ⟨t1, t2⟩ := sc_of s1
    have km1 := EV_isK e1 km
    have w1 : w32 (i + 1) = i + 1 := w32_id (by omega) (by omega)
    have p1 : 0 ≤ i + 1 := by omega
    have q1 : i + 1 < mscl h := by omega
    refine ⟨h2, hI2, s2.trans s1, ?_⟩
    simp only [e332_1069, e332_1070, e332_1071, e332_1072, e332_1073, e332_1074s, e332_1075, e332_1078, e332_1079, e332_1080, e332_1081, e332_1082, e332_1083s, e332_1084, e332_1087, e332_1090, e332_1091, e1, e2, t1, t2, k0, km, km1, w1, p1, q1, psh0, psh1, cmp3_self, Option.bind_some, List.length_nil, List.length_cons, Nat.reduceAdd, Nat.reduceLeDiff, Nat.zero_le, if_true, eq_self]
set_option maxRecDepth 100000 in
set_option maxHeartbeats 4000000 in
theorem law_said {Inv : AM → Prop} (hB : Base Inv) (hop : Op_said Inv) {d : Nat} {i : Int} {h : AM} (hI : Inv h) (h0 : 0 ≤ i) (h6 : i + 6 ≤ mscl h) : ∃ h2, Inv h2 ∧ h2.2.2.2.2 = h.2.2.2.2 ∧ EV (d + 61) 332 1092 [(2, -2), (2, 0), (2, 235), (0, i)] [] h = EV (d + 61) 332 1842 [(2, -2), (2, 0), (2, 235), (0, i)] [] h2 := by
    obtain ⟨k0, km, hx, l0, l1⟩ := hB h hI
    obtain ⟨r, h1, h2, e1, e2, hI2⟩ := hop d h (msc h (i + 1)) hI (hx _)
    have s1 := EV_sc e1
    have s2 := EV_sc e2
    obtain ⟨t1, t2⟩ := sc_of s1
    have km1 := EV_isK e1 km
    have w1 : w32 (i + 1) = i + 1 := w32_id (by omega) (by omega)
    have p1 : 0 ≤ i + 1 := by omega
    have q1 : i + 1 < mscl h := by omega
    refine ⟨h2, hI2, s2.trans s1, ?_⟩
    simp only [e332_1092, e332_1093, e332_1094, e332_1095, e332_1096, e332_1097s, e332_1098, e332_1101, e332_1102, e332_1103, e332_1104, e332_1105, e332_1106s, e332_1107, e332_1110, e332_1113, e332_1114, e1, e2, t1, t2, k0, km, km1, w1, p1, q1, psh0, psh1, cmp3_self, Option.bind_some, List.length_nil, List.length_cons, Nat.reduceAdd, Nat.reduceLeDiff, Nat.zero_le, if_true, eq_self]
set_option maxRecDepth 100000 in
set_option maxHeartbeats 4000000 in
theorem law_stumbles {Inv : AM → Prop} (hB : Base Inv) (hop : Op_stumbles Inv) {d : Nat} {i : Int} {h : AM} (hI : Inv h) (h0 : 0 ≤ i) (h6 : i + 6 ≤ mscl h) : ∃ h2, Inv h2 ∧ h2.2.2.2.2 = h.2.2.2.2 ∧ EV (d + 61) 332 1115 [(2, -2), (2, 0), (2, 235), (0, i)] [] h = EV (d + 61) 332 1842 [(2, -2), (2, 0), (2, 235), (0, i)] [] h2 := by
    obtain ⟨k0, km, hx, l0, l1⟩ := hB h hI
    obtain ⟨r, h1, h2, e1, e2, hI2⟩ := hop d h (msc h (i + 1)) hI (hx _)
    have s1 := EV_sc e1
    have s2 := EV_sc e2
    obtain ⟨t1, t2⟩ := sc_of s1
    have km1 := EV_isK e1 km
    have w1 : w32 (i + 1) = i + 1 := w32_id (by omega) (by omega)
    have p1 : 0 ≤ i + 1 := by omega
    have q1 : i + 1 < mscl h := by omega
    refine ⟨h2, hI2, s2.trans s1, ?_⟩
    simp only [e332_1115, e332_1116, e332_1117, e332_1118, e332_1119, e332_1120s, e332_1121, e332_1124, e332_1125, e332_1126, e332_1127, e332_1128, e332_1129s, e332_1130, e332_1133, e332_1136, e332_1137, e1, e2, t1, t2, k0, km, km1, w1, p1, q1, psh0, psh1, cmp3_self, Option.bind_some, List.length_nil, List.length_cons, Nat.reduceAdd, Nat.reduceLeDiff, Nat.zero_le, if_true, eq_self]
set_option maxRecDepth 100000 in
set_option maxHeartbeats 4000000 in
theorem law_drop {Inv : AM → Prop} (hB : Base Inv) (hop : Op_drop Inv) {d : Nat} {i : Int} {h : AM} (hI : Inv h) (h0 : 0 ≤ i) (h6 : i + 6 ≤ mscl h) : ∃ h2, Inv h2 ∧ h2.2.2.2.2 = h.2.2.2.2 ∧ EV (d + 61) 332 1138 [(2, -2), (2, 0), (2, 235), (0, i)] [] h = EV (d + 61) 332 1842 [(2, -2), (2, 0), (2, 235), (0, i)] [] h2 := by
    obtain ⟨k0, km, hx, l0, l1⟩ := hB h hI
    obtain ⟨r, h1, h2, e1, e2, hI2⟩ := hop d h (msc h (i + 1)) hI (hx _)
    have s1 := EV_sc e1
    have s2 := EV_sc e2
    obtain ⟨t1, t2⟩ := sc_of s1
    have km1 := EV_isK e1 km
    have w1 : w32 (i + 1) = i + 1 := w32_id (by omega) (by omega)
    have p1 : 0 ≤ i + 1 := by omega
    have q1 : i + 1 < mscl h := by omega
    refine ⟨h2, hI2, s2.trans s1, ?_⟩
    simp only [e332_1138, e332_1139, e332_1140, e332_1141, e332_1142, e332_1143s, e332_1144, e332_1147, e332_1148, e332_1149, e332_1150, e332_1151, e332_1152s, e332_1153, e332_1156, e332_1159, e332_1160, e1, e2, t1, t2, k0, km, km1, w1, p1, q1, psh0, psh1, cmp3_self, Option.bind_some, List.length_nil, List.length_cons, Nat.reduceAdd, Nat.reduceLeDiff, Nat.zero_le, if_true, eq_self]
set_option maxRecDepth 100000 in
set_option maxHeartbeats 4000000 in
theorem law_firm {Inv : AM → Prop} (hB : Base Inv) (hop : Op_firm Inv) {d : Nat} {i : Int} {h : AM} (hI : Inv h) (h0 : 0 ≤ i) (h6 : i + 6 ≤ mscl h) : ∃ h2, Inv h2 ∧ h2.2.2.2.2 = h.2.2.2.2 ∧ EV (d + 61) 332 1161 [(2, -2), (2, 0), (2, 235), (0, i)] [] h = EV (d + 61) 332 1842 [(2, -2), (2, 0), (2, 235), (0, i)] [] h2 := by
    obtain ⟨k0, km, hx, l0, l1⟩ := hB h hI
    obtain ⟨r, h1, h2, e1, e2, hI2⟩ := hop d h (msc h (i + 1)) hI (hx _)
    have s1 := EV_sc e1
    have s2 := EV_sc e2
    obtain ⟨t1, t2⟩ := sc_of s1
    have km1 := EV_isK e1 km
    have w1 : w32 (i + 1) = i + 1 := w32_id (by omega) (by omega)
    have p1 : 0 ≤ i + 1 := by omega
    have q1 : i + 1 < mscl h := by omega
    refine ⟨h2, hI2, s2.trans s1, ?_⟩
    simp only [e332_1161, e332_1162, e332_1163, e332_1164, e332_1165, e332_1166s, e332_1167, e332_1170, e332_1171, e332_1172, e332_1173, e332_1174, e332_1175s, e332_1176, e332_1179, e332_1182, e332_1183, e1, e2, t1, t2, k0, km, km1, w1, p1, q1, psh0, psh1, cmp3_self, Option.bind_some, List.length_nil, List.length_cons, Nat.reduceAdd, Nat.reduceLeDiff, Nat.zero_le, if_true, eq_self]
set_option maxRecDepth 100000 in
set_option maxHeartbeats 4000000 in
theorem law_weak {Inv : AM → Prop} (hB : Base Inv) (hop : Op_weak Inv) {d : Nat} {i : Int} {h : AM} (hI : Inv h) (h0 : 0 ≤ i) (h6 : i + 6 ≤ mscl h) : ∃ h2, Inv h2 ∧ h2.2.2.2.2 = h.2.2.2.2 ∧ EV (d + 61) 332 1184 [(2, -2), (2, 0), (2, 235), (0, i)] [] h = EV (d + 61) 332 1842 [(2, -2), (2, 0), (2, 235), (0, i)] [] h2 := by
    obtain ⟨k0, km, hx, l0, l1⟩ := hB h hI
    obtain ⟨r, h1, h2, e1, e2, hI2⟩ := hop d h (msc h (i + 1)) hI (hx _)
    have s1 := EV_sc e1
    have s2 := EV_sc e2
    obtain ⟨t1, t2⟩ := sc_of s1
    have km1 := EV_isK e1 km
    have w1 : w32 (i + 1) = i + 1 := w32_id (by omega) (by omega)
    have p1 : 0 ≤ i + 1 := by omega
    have q1 : i + 1 < mscl h := by omega
    refine ⟨h2, hI2, s2.trans s1, ?_⟩
    simp only [e332_1184, e332_1185, e332_1186, e332_1187, e332_1188, e332_1189s, e332_1190, e332_1193, e332_1194, e332_1195, e332_1196, e332_1197, e332_1198s, e332_1199, e332_1202, e332_1205, e332_1206, e1, e2, t1, t2, k0, km, km1, w1, p1, q1, psh0, psh1, cmp3_self, Option.bind_some, List.length_nil, List.length_cons, Nat.reduceAdd, Nat.reduceLeDiff, Nat.zero_le, if_true, eq_self]
set_option maxRecDepth 100000 in
set_option maxHeartbeats 4000000 in
theorem law_vowels {Inv : AM → Prop} (hB : Base Inv) (hop : Op_vowels Inv) {d : Nat} {i : Int} {h : AM} (hI : Inv h) (h0 : 0 ≤ i) (h6 : i + 6 ≤ mscl h) : ∃ h2, Inv h2 ∧ h2.2.2.2.2 = h.2.2.2.2 ∧ EV (d + 61) 332 1207 [(2, -2), (2, 0), (2, 235), (0, i)] [] h = EV (d + 61) 332 1842 [(2, -2), (2, 0), (2, 235), (0, i)] [] h2 := by
    obtain ⟨k0, km, hx, l0, l1⟩ := hB h hI
    obtain ⟨r, h1, h2, e1, e2, hI2⟩ := hop d h (msc h (i + 1)) hI (hx _)
    have s1 := EV_sc e1
    have s2 := EV_sc e2
    obtain ⟨t1, t2⟩ := sc_of s1
    have km1 := EV_isK e1 km
    have w1 : w32 (i + 1) = i + 1 := w32_id (by omega) (by omega)
    have p1 : 0 ≤ i + 1 := by omega
    have q1 : i + 1 < mscl h := by omega
    refine ⟨h2, hI2, s2.trans s1, ?_⟩
    simp only [e332_1207, e332_1208, e332_1209, e332_1210, e332_1211, e332_1212s, e332_1213, e332_1216, e332_1217, e332_1218, e332_1219, e332_1220, e332_1221s, e332_1222, e332_1225, e332_1228, e332_1229, e1, e2, t1, t2, k0, km, km1, w1, p1, q1, psh0, psh1, cmp3_self, Option.bind_some, List.length_nil, List.length_cons, Nat.reduceAdd, Nat.reduceLeDiff, Nat.zero_le, if_true, eq_self]
set_option maxRecDepth 100000 in
set_option maxHeartbeats 4000000 in
theorem law_rhyme {Inv : AM → Prop} (hB : Base Inv) (hop : Op_rhyme Inv) {d : Nat} {i : Int} {h : AM} (hI : Inv h) (h0 : 0 ≤ i) (h6 : i + 6 ≤ mscl h) : ∃ h2, Inv h2 ∧ h2.2.2.2.2 = h.2.2.2.2 ∧ EV (d + 61) 332 1230 [(2, -2), (2, 0), (2, 235), (0, i)] [] h = EV (d + 61) 332 1842 [(2, -2), (2, 0), (2, 235), (0, i)] [] h2 := by
    obtain ⟨k0, km, hx, l0, l1⟩ := hB h hI
    obtain ⟨r, h1, h2, e1, e2, hI2⟩ := hop d h (msc h (i + 1)) (msc h (i + 2)) hI (hx _) (hx _)
    have s1 := EV_sc e1
    have s2 := EV_sc e2
    obtain ⟨t1, t2⟩ := sc_of s1
    have km1 := EV_isK e1 km
    have w1 : w32 (i + 1) = i + 1 := w32_id (by omega) (by omega)
    have w2 : w32 (i + 2) = i + 2 := w32_id (by omega) (by omega)
    have p1 : 0 ≤ i + 1 := by omega
    have q1 : i + 1 < mscl h := by omega
    have p2 : 0 ≤ i + 2 := by omega
    have q2 : i + 2 < mscl h := by omega
    refine ⟨h2, hI2, s2.trans s1, ?_⟩
    simp only [e332_1230, e332_1231, e332_1232, e332_1233, e332_1234, e332_1235s, e332_1236, e332_1237, e332_1238, e332_1239, e332_1240s, e332_1241, e332_1244, e332_1245, e332_1246, e332_1247, e332_1248, e332_1249s, e332_1250, e332_1251, e332_1252, e332_1253, e332_1254s, e332_1255, e332_1258, e332_1261, e332_1262, e1, e2, t1, t2, k0, km, km1, w1, p1, q1, w2, p2, q2, psh0, psh1, cmp3_self, Option.bind_some, List.length_nil, List.length_cons, Nat.reduceAdd, Nat.reduceLeDiff, Nat.zero_le, if_true, eq_self]
set_option maxRecDepth 100000 in
set_option maxHeartbeats 4000000 in
theorem law_apart {Inv : AM → Prop} (hB : Base Inv) (hop : Op_apart Inv) {d : Nat} {i : Int} {h : AM} (hI : Inv h) (h0 : 0 ≤ i) (h6 : i + 6 ≤ mscl h) : ∃ h2, Inv h2 ∧ h2.2.2.2.2 = h.2.2.2.2 ∧ EV (d + 61) 332 1263 [(2, -2), (2, 0), (2, 235), (0, i)] [] h = EV (d + 61) 332 1842 [(2, -2), (2, 0), (2, 235), (0, i)] [] h2 := by
    obtain ⟨k0, km, hx, l0, l1⟩ := hB h hI
    obtain ⟨r, h1, h2, e1, e2, hI2⟩ := hop d h (msc h (i + 1)) (msc h (i + 2)) hI (hx _) (hx _)
    have s1 := EV_sc e1
    have s2 := EV_sc e2
    obtain ⟨t1, t2⟩ := sc_of s1
    have km1 := EV_isK e1 km
    have w1 : w32 (i + 1) = i + 1 := w32_id (by omega) (by omega)
    have w2 : w32 (i + 2) = i + 2 := w32_id (by omega) (by omega)
    have p1 : 0 ≤ i + 1 := by omega
    have q1 : i + 1 < mscl h := by omega
    have p2 : 0 ≤ i + 2 := by omega
    have q2 : i + 2 < mscl h := by omega
    refine ⟨h2, hI2, s2.trans s1, ?_⟩
    simp only [e332_1263, e332_1264, e332_1265, e332_1266, e332_1267, e332_1268s, e332_1269, e332_1270, e332_1271, e332_1272, e332_1273s, e332_1274, e332_1277, e332_1278, e332_1279, e332_1280, e332_1281, e332_1282s, e332_1283, e332_1284, e332_1285, e332_1286, e332_1287s, e332_1288, e332_1291, e332_1294, e332_1295, e1, e2, t1, t2, k0, km, km1, w1, p1, q1, w2, p2, q2, psh0, psh1, cmp3_self, Option.bind_some, List.length_nil, List.length_cons, Nat.reduceAdd, Nat.reduceLeDiff, Nat.zero_le, if_true, eq_self]
set_option maxRecDepth 100000 in
set_option maxHeartbeats 4000000 in
theorem law_behind {Inv : AM → Prop} (hB : Base Inv) (hop : Op_behind Inv) {d : Nat} {i : Int} {h : AM} (hI : Inv h) (h0 : 0 ≤ i) (h6 : i + 6 ≤ mscl h) : ∃ h2, Inv h2 ∧ h2.2.2.2.2 = h.2.2.2.2 ∧ EV (d + 61) 332 1296 [(2, -2), (2, 0), (2, 235), (0, i)] [] h = EV (d + 61) 332 1842 [(2, -2), (2, 0), (2, 235), (0, i)] [] h2 := by
    obtain ⟨k0, km, hx, l0, l1⟩ := hB h hI
    obtain ⟨r, h1, h2, e1, e2, hI2⟩ := hop d h (msc h (i + 1)) (msc h (i + 2)) hI (hx _) (hx _)
    have s1 := EV_sc e1
    have s2 := EV_sc e2
    obtain ⟨t1, t2⟩ := sc_of s1
    have km1 := EV_isK e1 km
    have w1 : w32 (i + 1) = i + 1 := w32_id (by omega) (by omega)
    have w2 : w32 (i + 2) = i + 2 := w32_id (by omega) (by omega)
    have p1 : 0 ≤ i + 1 := by omega
    have q1 : i + 1 < mscl h := by omega
    have p2 : 0 ≤ i + 2 := by omega
    have q2 : i + 2 < mscl h := by omega
    refine ⟨h2, hI2, s2.trans s1, ?_⟩
    simp only [e332_1296, e332_1297, e332_1298, e332_1299, e332_1300, e332_1301s, e332_1302, e332_1303, e332_1304, e332_1305, e332_1306s, e332_1307, e332_1310, e332_1311, e332_1312, e332_1313, e332_1314, e332_1315s, e332_1316, e332_1317, e332_1318, e332_1319, e332_1320s, e332_1321, e332_1324, e332_1327, e332_1328, e1, e2, t1, t2, k0, km, km1, w1, p1, q1, w2, p2, q2, psh0, psh1, cmp3_self, Option.bind_some, List.length_nil, List.length_cons, Nat.reduceAdd, Nat.reduceLeDiff, Nat.zero_le, if_true, eq_self]
set_option maxRecDepth 100000 in
set_option maxHeartbeats 4000000 in
theorem law_life {Inv : AM → Prop} (hB : Base Inv) (hop : Op_life Inv) {d : Nat} {i : Int} {h : AM} (hI : Inv h) (h0 : 0 ≤ i) (h6 : i + 6 ≤ mscl h) : ∃ h2, Inv h2 ∧ h2.2.2.2.2 = h.2.2.2.2 ∧ EV (d + 61) 332 1329 [(2, -2), (2, 0), (2, 235), (0, i)] [] h = EV (d + 61) 332 1842 [(2, -2), (2, 0), (2, 235), (0, i)] [] h2 := by
    obtain ⟨k0, km, hx, l0, l1⟩ := hB h hI
    obtain ⟨r, h1, h2, e1, e2, hI2⟩ := hop d h (msc h (i + 1)) (msc h (i + 2)) hI (hx _) (hx _)
    have s1 := EV_sc e1
    have s2 := EV_sc e2
    obtain ⟨t1, t2⟩ := sc_of s1
    have km1 := EV_isK e1 km
    have w1 : w32 (i + 1) = i + 1 := w32_id (by omega) (by omega)
    have w2 : w32 (i + 2) = i + 2 := w32_id (by omega) (by omega)
    have p1 : 0 ≤ i + 1 := by omega
    have q1 : i + 1 < mscl h := by omega
    have p2 : 0 ≤ i + 2 := by omega
    have q2 : i + 2 < mscl h := by omega
    refine ⟨h2, hI2, s2.trans s1, ?_⟩
    simp only [e332_1329, e332_1330, e332_1331, e332_1332, e332_1333, e332_1334s, e332_1335, e332_1336, e332_1337, e332_1338, e332_1339s, e332_1340, e332_1343, e332_1344, e332_1345, e332_1346, e332_1347, e332_1348s, e332_1349, e332_1350, e332_1351, e332_1352, e332_1353s, e332_1354, e332_1357, e332_1360, e332_1361, e1, e2, t1, t2, k0, km, km1, w1, p1, q1, w2, p2, q2, psh0, psh1, cmp3_self, Option.bind_some, List.length_nil, List.length_cons, Nat.reduceAdd, Nat.reduceLeDiff, Nat.zero_le, if_true, eq_self]
set_option maxRecDepth 100000 in
set_option maxHeartbeats 4000000 in
theorem law_soonest {Inv : AM → Prop} (hB : Base Inv) (hop : Op_soonest Inv) {d : Nat} {i : Int} {h : AM} (hI : Inv h) (h0 : 0 ≤ i) (h6 : i + 6 ≤ mscl h) : ∃ h2, Inv h2 ∧ h2.2.2.2.2 = h.2.2.2.2 ∧ EV (d + 61) 332 1362 [(2, -2), (2, 0), (2, 235), (0, i)] [] h = EV (d + 61) 332 1842 [(2, -2), (2, 0), (2, 235), (0, i)] [] h2 := by
    obtain ⟨k0, km, hx, l0, l1⟩ := hB h hI
    obtain ⟨r, h1, h2, e1, e2, hI2⟩ := hop d h (msc h (i + 1)) (msc h (i + 2)) hI (hx _) (hx _)
    have s1 := EV_sc e1
    have s2 := EV_sc e2
    obtain ⟨t1, t2⟩ := sc_of s1
    have km1 := EV_isK e1 km
    have w1 : w32 (i + 1) = i + 1 := w32_id (by omega) (by omega)
    have w2 : w32 (i + 2) = i + 2 := w32_id (by omega) (by omega)
    have p1 : 0 ≤ i + 1 := by omega
    have q1 : i + 1 < mscl h := by omega
    have p2 : 0 ≤ i + 2 := by omega
    have q2 : i + 2 < mscl h := by omega
    refine ⟨h2, hI2, s2.trans s1, ?_⟩
    simp only [e332_1362, e332_1363, e332_1364, e332_1365, e332_1366, e332_1367s, e332_1368, e332_1369, e332_1370, e332_1371, e332_1372s, e332_1373, e332_1376, e332_1377, e332_1378, e332_1379, e332_1380, e332_1381s, e332_1382, e332_1383, e332_1384, e332_1385, e332_1386s, e332_1387, e332_1390, e332_1393, e332_1394, e1, e2, t1, t2, k0, km, km1, w1, p1, q1, w2, p2, q2, psh0, psh1, cmp3_self, Option.bind_some, List.length_nil, List.length_cons, Nat.reduceAdd, Nat.reduceLeDiff, Nat.zero_le, if_true, eq_self]
set_option maxRecDepth 100000 in
set_option maxHeartbeats 4000000 in
theorem law_cheapest {Inv : AM → Prop} (hB : Base Inv) (hop : Op_cheapest Inv) {d : Nat} {i : Int} {h : AM} (hI : Inv h) (h0 : 0 ≤ i) (h6 : i + 6 ≤ mscl h) : ∃ h2, Inv h2 ∧ h2.2.2.2.2 = h.2.2.2.2 ∧ EV (d + 61) 332 1395 [(2, -2), (2, 0), (2, 235), (0, i)] [] h = EV (d + 61) 332 1842 [(2, -2), (2, 0), (2, 235), (0, i)] [] h2 := by
    obtain ⟨k0, km, hx, l0, l1⟩ := hB h hI
    obtain ⟨r, h1, h2, e1, e2, hI2⟩ := hop d h (msc h (i + 1)) (msc h (i + 2)) hI (hx _) (hx _)
    have s1 := EV_sc e1
    have s2 := EV_sc e2
    obtain ⟨t1, t2⟩ := sc_of s1
    have km1 := EV_isK e1 km
    have w1 : w32 (i + 1) = i + 1 := w32_id (by omega) (by omega)
    have w2 : w32 (i + 2) = i + 2 := w32_id (by omega) (by omega)
    have p1 : 0 ≤ i + 1 := by omega
    have q1 : i + 1 < mscl h := by omega
    have p2 : 0 ≤ i + 2 := by omega
    have q2 : i + 2 < mscl h := by omega
    refine ⟨h2, hI2, s2.trans s1, ?_⟩
    simp only [e332_1395, e332_1396, e332_1397, e332_1398, e332_1399, e332_1400s, e332_1401, e332_1402, e332_1403, e332_1404, e332_1405s, e332_1406, e332_1409, e332_1410, e332_1411, e332_1412, e332_1413, e332_1414s, e332_1415, e332_1416, e332_1417, e332_1418, e332_1419s, e332_1420, e332_1423, e332_1426, e332_1427, e1, e2, t1, t2, k0, km, km1, w1, p1, q1, w2, p2, q2, psh0, psh1, cmp3_self, Option.bind_some, List.length_nil, List.length_cons, Nat.reduceAdd, Nat.reduceLeDiff, Nat.zero_le, if_true, eq_self]
set_option maxRecDepth 100000 in
set_option maxHeartbeats 4000000 in
theorem law_ways {Inv : AM → Prop} (hB : Base Inv) (hop : Op_ways Inv) {d : Nat} {i : Int} {h : AM} (hI : Inv h) (h0 : 0 ≤ i) (h6 : i + 6 ≤ mscl h) : ∃ h2, Inv h2 ∧ h2.2.2.2.2 = h.2.2.2.2 ∧ EV (d + 61) 332 1428 [(2, -2), (2, 0), (2, 235), (0, i)] [] h = EV (d + 61) 332 1842 [(2, -2), (2, 0), (2, 235), (0, i)] [] h2 := by
    obtain ⟨k0, km, hx, l0, l1⟩ := hB h hI
    obtain ⟨r, h1, h2, e1, e2, hI2⟩ := hop d h (msc h (i + 1)) (msc h (i + 2)) hI (hx _) (hx _)
    have s1 := EV_sc e1
    have s2 := EV_sc e2
    obtain ⟨t1, t2⟩ := sc_of s1
    have km1 := EV_isK e1 km
    have w1 : w32 (i + 1) = i + 1 := w32_id (by omega) (by omega)
    have w2 : w32 (i + 2) = i + 2 := w32_id (by omega) (by omega)
    have p1 : 0 ≤ i + 1 := by omega
    have q1 : i + 1 < mscl h := by omega
    have p2 : 0 ≤ i + 2 := by omega
    have q2 : i + 2 < mscl h := by omega
    refine ⟨h2, hI2, s2.trans s1, ?_⟩
    simp only [e332_1428, e332_1429, e332_1430, e332_1431, e332_1432, e332_1433s, e332_1434, e332_1435, e332_1436, e332_1437, e332_1438s, e332_1439, e332_1442, e332_1443, e332_1444, e332_1445, e332_1446, e332_1447s, e332_1448, e332_1449, e332_1450, e332_1451, e332_1452s, e332_1453, e332_1456, e332_1457, e332_1460, e332_1461, e1, e2, t1, t2, k0, km, km1, w1, p1, q1, w2, p2, q2, psh0, psh1, cmp3_self, Option.bind_some, List.length_nil, List.length_cons, Nat.reduceAdd, Nat.reduceLeDiff, Nat.zero_le, if_true, eq_self]
set_option maxRecDepth 100000 in
set_option maxHeartbeats 4000000 in
theorem law_first {Inv : AM → Prop} (hB : Base Inv) (hop : Op_first Inv) {d : Nat} {i : Int} {h : AM} (hI : Inv h) (h0 : 0 ≤ i) (h6 : i + 6 ≤ mscl h) : ∃ h2, Inv h2 ∧ h2.2.2.2.2 = h.2.2.2.2 ∧ EV (d + 61) 332 1462 [(2, -2), (2, 0), (2, 235), (0, i)] [] h = EV (d + 61) 332 1842 [(2, -2), (2, 0), (2, 235), (0, i)] [] h2 := by
    obtain ⟨k0, km, hx, l0, l1⟩ := hB h hI
    obtain ⟨r, h1, h2, e1, e2, hI2⟩ := hop d h (msc h (i + 1)) (msc h (i + 2)) hI (hx _) (hx _)
    have s1 := EV_sc e1
    have s2 := EV_sc e2
    obtain ⟨t1, t2⟩ := sc_of s1
    have km1 := EV_isK e1 km
    have w1 : w32 (i + 1) = i + 1 := w32_id (by omega) (by omega)
    have w2 : w32 (i + 2) = i + 2 := w32_id (by omega) (by omega)
    have p1 : 0 ≤ i + 1 := by omega
    have q1 : i + 1 < mscl h := by omega
    have p2 : 0 ≤ i + 2 := by omega
    have q2 : i + 2 < mscl h := by omega
    refine ⟨h2, hI2, s2.trans s1, ?_⟩
    simp only [e332_1462, e332_1463, e332_1464, e332_1465, e332_1466, e332_1467s, e332_1468, e332_1469, e332_1470, e332_1471, e332_1472s, e332_1473, e332_1476, e332_1477, e332_1478, e332_1479, e332_1480, e332_1481s, e332_1482, e332_1483, e332_1484, e332_1485, e332_1486s, e332_1487, e332_1490, e332_1493, e332_1494, e1, e2, t1, t2, k0, km, km1, w1, p1, q1, w2, p2, q2, psh0, psh1, cmp3_self, Option.bind_some, List.length_nil, List.length_cons, Nat.reduceAdd, Nat.reduceLeDiff, Nat.zero_le, if_true, eq_self]
set_option maxRecDepth 100000 in
set_option maxHeartbeats 4000000 in
theorem law_firstAt {Inv : AM → Prop} (hB : Base Inv) (hop : Op_firstAt Inv) {d : Nat} {i : Int} {h : AM} (hI : Inv h) (h0 : 0 ≤ i) (h6 : i + 6 ≤ mscl h) : ∃ h2, Inv h2 ∧ h2.2.2.2.2 = h.2.2.2.2 ∧ EV (d + 61) 332 1495 [(2, -2), (2, 0), (2, 235), (0, i)] [] h = EV (d + 61) 332 1842 [(2, -2), (2, 0), (2, 235), (0, i)] [] h2 := by
    obtain ⟨k0, km, hx, l0, l1⟩ := hB h hI
    obtain ⟨r, h1, h2, e1, e2, hI2⟩ := hop d h (msc h (i + 1)) hI (hx _)
    have s1 := EV_sc e1
    have s2 := EV_sc e2
    obtain ⟨t1, t2⟩ := sc_of s1
    have km1 := EV_isK e1 km
    have w1 : w32 (i + 1) = i + 1 := w32_id (by omega) (by omega)
    have p1 : 0 ≤ i + 1 := by omega
    have q1 : i + 1 < mscl h := by omega
    refine ⟨h2, hI2, s2.trans s1, ?_⟩
    simp only [e332_1495, e332_1496, e332_1497, e332_1498, e332_1499, e332_1500s, e332_1501, e332_1504, e332_1505, e332_1506, e332_1507, e332_1508, e332_1509s, e332_1510, e332_1513, e332_1516, e332_1517, e1, e2, t1, t2, k0, km, km1, w1, p1, q1, psh0, psh1, cmp3_self, Option.bind_some, List.length_nil, List.length_cons, Nat.reduceAdd, Nat.reduceLeDiff, Nat.zero_le, if_true, eq_self]
set_option maxRecDepth 100000 in
set_option maxHeartbeats 4000000 in
theorem law_goes {Inv : AM → Prop} (hB : Base Inv) (hop : Op_goes Inv) {d : Nat} {i : Int} {h : AM} (hI : Inv h) (h0 : 0 ≤ i) (h6 : i + 6 ≤ mscl h) : ∃ h2, Inv h2 ∧ h2.2.2.2.2 = h.2.2.2.2 ∧ EV (d + 61) 332 1518 [(2, -2), (2, 0), (2, 235), (0, i)] [] h = EV (d + 61) 332 1842 [(2, -2), (2, 0), (2, 235), (0, i)] [] h2 := by
    obtain ⟨k0, km, hx, l0, l1⟩ := hB h hI
    obtain ⟨r, h1, h2, e1, e2, hI2⟩ := hop d h (msc h (i + 1)) (msc h (i + 2)) hI (hx _) (hx _)
    have s1 := EV_sc e1
    have s2 := EV_sc e2
    obtain ⟨t1, t2⟩ := sc_of s1
    have km1 := EV_isK e1 km
    have w1 : w32 (i + 1) = i + 1 := w32_id (by omega) (by omega)
    have w2 : w32 (i + 2) = i + 2 := w32_id (by omega) (by omega)
    have p1 : 0 ≤ i + 1 := by omega
    have q1 : i + 1 < mscl h := by omega
    have p2 : 0 ≤ i + 2 := by omega
    have q2 : i + 2 < mscl h := by omega
    refine ⟨h2, hI2, s2.trans s1, ?_⟩
    simp only [e332_1518, e332_1519, e332_1520, e332_1521, e332_1522, e332_1523s, e332_1524, e332_1525, e332_1526, e332_1527, e332_1528s, e332_1529, e332_1532, e332_1533, e332_1534, e332_1535, e332_1536, e332_1537s, e332_1538, e332_1539, e332_1540, e332_1541, e332_1542s, e332_1543, e332_1546, e332_1549, e332_1550, e1, e2, t1, t2, k0, km, km1, w1, p1, q1, w2, p2, q2, psh0, psh1, cmp3_self, Option.bind_some, List.length_nil, List.length_cons, Nat.reduceAdd, Nat.reduceLeDiff, Nat.zero_le, if_true, eq_self]
set_option maxRecDepth 100000 in
set_option maxHeartbeats 4000000 in
theorem law_lives {Inv : AM → Prop} (hB : Base Inv) (hop : Op_lives Inv) {d : Nat} {i : Int} {h : AM} (hI : Inv h) (h0 : 0 ≤ i) (h6 : i + 6 ≤ mscl h) : ∃ h2, Inv h2 ∧ h2.2.2.2.2 = h.2.2.2.2 ∧ EV (d + 61) 332 1551 [(2, -2), (2, 0), (2, 235), (0, i)] [] h = EV (d + 61) 332 1842 [(2, -2), (2, 0), (2, 235), (0, i)] [] h2 := by
    obtain ⟨k0, km, hx, l0, l1⟩ := hB h hI
    obtain ⟨r, h1, h2, e1, e2, hI2⟩ := hop d h (msc h (i + 1)) hI (hx _)
    have s1 := EV_sc e1
    have s2 := EV_sc e2
    obtain ⟨t1, t2⟩ := sc_of s1
    have km1 := EV_isK e1 km
    have w1 : w32 (i + 1) = i + 1 := w32_id (by omega) (by omega)
    have p1 : 0 ≤ i + 1 := by omega
    have q1 : i + 1 < mscl h := by omega
    refine ⟨h2, hI2, s2.trans s1, ?_⟩
    simp only [e332_1551, e332_1552, e332_1553, e332_1554, e332_1555, e332_1556s, e332_1557, e332_1560, e332_1561, e332_1562, e332_1563, e332_1564, e332_1565s, e332_1566, e332_1569, e332_1570, e332_1573, e332_1574, e1, e2, t1, t2, k0, km, km1, w1, p1, q1, psh0, psh1, cmp3_self, Option.bind_some, List.length_nil, List.length_cons, Nat.reduceAdd, Nat.reduceLeDiff, Nat.zero_le, if_true, eq_self]
set_option maxRecDepth 100000 in
set_option maxHeartbeats 4000000 in
theorem law_orders {Inv : AM → Prop} (hB : Base Inv) (hop : Op_orders Inv) {d : Nat} {i : Int} {h : AM} (hI : Inv h) (h0 : 0 ≤ i) (h6 : i + 6 ≤ mscl h) : ∃ h2, Inv h2 ∧ h2.2.2.2.2 = h.2.2.2.2 ∧ EV (d + 61) 332 1575 [(2, -2), (2, 0), (2, 235), (0, i)] [] h = EV (d + 61) 332 1842 [(2, -2), (2, 0), (2, 235), (0, i)] [] h2 := by
    obtain ⟨k0, km, hx, l0, l1⟩ := hB h hI
    obtain ⟨r, h1, h2, e1, e2, hI2⟩ := hop d h (msc h (i + 1)) hI (hx _)
    have s1 := EV_sc e1
    have s2 := EV_sc e2
    obtain ⟨t1, t2⟩ := sc_of s1
    have km1 := EV_isK e1 km
    have w1 : w32 (i + 1) = i + 1 := w32_id (by omega) (by omega)
    have p1 : 0 ≤ i + 1 := by omega
    have q1 : i + 1 < mscl h := by omega
    refine ⟨h2, hI2, s2.trans s1, ?_⟩
    simp only [e332_1575, e332_1576, e332_1577, e332_1578, e332_1579, e332_1580s, e332_1581, e332_1584, e332_1585, e332_1586, e332_1587, e332_1588, e332_1589s, e332_1590, e332_1593, e332_1594, e332_1597, e332_1598, e1, e2, t1, t2, k0, km, km1, w1, p1, q1, psh0, psh1, cmp3_self, Option.bind_some, List.length_nil, List.length_cons, Nat.reduceAdd, Nat.reduceLeDiff, Nat.zero_le, if_true, eq_self]
set_option maxRecDepth 100000 in
set_option maxHeartbeats 4000000 in
theorem law_reach {Inv : AM → Prop} (hB : Base Inv) (hop : Op_reach Inv) {d : Nat} {i : Int} {h : AM} (hI : Inv h) (h0 : 0 ≤ i) (h6 : i + 6 ≤ mscl h) : ∃ h2, Inv h2 ∧ h2.2.2.2.2 = h.2.2.2.2 ∧ EV (d + 61) 332 1599 [(2, -2), (2, 0), (2, 235), (0, i)] [] h = EV (d + 61) 332 1842 [(2, -2), (2, 0), (2, 235), (0, i)] [] h2 := by
    obtain ⟨k0, km, hx, l0, l1⟩ := hB h hI
    obtain ⟨r, h1, h2, e1, e2, hI2⟩ := hop d h (msc h (i + 1)) hI (hx _)
    have s1 := EV_sc e1
    have s2 := EV_sc e2
    obtain ⟨t1, t2⟩ := sc_of s1
    have km1 := EV_isK e1 km
    have w1 : w32 (i + 1) = i + 1 := w32_id (by omega) (by omega)
    have p1 : 0 ≤ i + 1 := by omega
    have q1 : i + 1 < mscl h := by omega
    refine ⟨h2, hI2, s2.trans s1, ?_⟩
    simp only [e332_1599, e332_1600, e332_1601, e332_1602, e332_1603, e332_1604s, e332_1605, e332_1608, e332_1609, e332_1610, e332_1611, e332_1612, e332_1613s, e332_1614, e332_1617, e332_1620, e332_1621, e1, e2, t1, t2, k0, km, km1, w1, p1, q1, psh0, psh1, cmp3_self, Option.bind_some, List.length_nil, List.length_cons, Nat.reduceAdd, Nat.reduceLeDiff, Nat.zero_le, if_true, eq_self]
set_option maxRecDepth 100000 in
set_option maxHeartbeats 4000000 in
theorem law_sayable {Inv : AM → Prop} (hB : Base Inv) (hop : Op_sayable Inv) {d : Nat} {i : Int} {h : AM} (hI : Inv h) (h0 : 0 ≤ i) (h6 : i + 6 ≤ mscl h) : ∃ h2, Inv h2 ∧ h2.2.2.2.2 = h.2.2.2.2 ∧ EV (d + 61) 332 1622 [(2, -2), (2, 0), (2, 235), (0, i)] [] h = EV (d + 61) 332 1842 [(2, -2), (2, 0), (2, 235), (0, i)] [] h2 := by
    obtain ⟨k0, km, hx, l0, l1⟩ := hB h hI
    obtain ⟨r, h1, h2, e1, e2, hI2⟩ := hop d h (msc h (i + 1)) hI (hx _)
    have s1 := EV_sc e1
    have s2 := EV_sc e2
    obtain ⟨t1, t2⟩ := sc_of s1
    have km1 := EV_isK e1 km
    have w1 : w32 (i + 1) = i + 1 := w32_id (by omega) (by omega)
    have p1 : 0 ≤ i + 1 := by omega
    have q1 : i + 1 < mscl h := by omega
    refine ⟨h2, hI2, s2.trans s1, ?_⟩
    simp only [e332_1622, e332_1623, e332_1624, e332_1625, e332_1626, e332_1627s, e332_1628, e332_1631, e332_1632, e332_1633, e332_1634, e332_1635, e332_1636s, e332_1637, e332_1640, e332_1643, e332_1644, e1, e2, t1, t2, k0, km, km1, w1, p1, q1, psh0, psh1, cmp3_self, Option.bind_some, List.length_nil, List.length_cons, Nat.reduceAdd, Nat.reduceLeDiff, Nat.zero_le, if_true, eq_self]
set_option maxRecDepth 100000 in
set_option maxHeartbeats 4000000 in
theorem law_root {Inv : AM → Prop} (hB : Base Inv) (hop : Op_root Inv) {d : Nat} {i : Int} {h : AM} (hI : Inv h) (h0 : 0 ≤ i) (h6 : i + 6 ≤ mscl h) : ∃ h2, Inv h2 ∧ h2.2.2.2.2 = h.2.2.2.2 ∧ EV (d + 61) 332 1645 [(2, -2), (2, 0), (2, 235), (0, i)] [] h = EV (d + 61) 332 1842 [(2, -2), (2, 0), (2, 235), (0, i)] [] h2 := by
    obtain ⟨k0, km, hx, l0, l1⟩ := hB h hI
    obtain ⟨r, h1, h2, e1, e2, hI2⟩ := hop d h  hI 
    have s1 := EV_sc e1
    have s2 := EV_sc e2
    obtain ⟨t1, t2⟩ := sc_of s1
    have km1 := EV_isK e1 km
    refine ⟨h2, hI2, s2.trans s1, ?_⟩
    simp only [e332_1645, e332_1646, e332_1649, e332_1650, e332_1653, e332_1656, e332_1657, e1, e2, t1, t2, k0, km, km1, psh0, psh1, cmp3_self, Option.bind_some, List.length_nil, List.length_cons, Nat.reduceAdd, Nat.reduceLeDiff, Nat.zero_le, if_true, eq_self]
set_option maxRecDepth 100000 in
set_option maxHeartbeats 4000000 in
theorem law_plans {Inv : AM → Prop} (hB : Base Inv) (hop : Op_plans Inv) {d : Nat} {i : Int} {h : AM} (hI : Inv h) (h0 : 0 ≤ i) (h6 : i + 6 ≤ mscl h) : ∃ h2, Inv h2 ∧ h2.2.2.2.2 = h.2.2.2.2 ∧ EV (d + 61) 332 1658 [(2, -2), (2, 0), (2, 235), (0, i)] [] h = EV (d + 61) 332 1842 [(2, -2), (2, 0), (2, 235), (0, i)] [] h2 := by
    obtain ⟨k0, km, hx, l0, l1⟩ := hB h hI
    obtain ⟨r, h1, h2, e1, e2, hI2⟩ := hop d h  hI 
    have s1 := EV_sc e1
    have s2 := EV_sc e2
    obtain ⟨t1, t2⟩ := sc_of s1
    have km1 := EV_isK e1 km
    refine ⟨h2, hI2, s2.trans s1, ?_⟩
    simp only [e332_1658, e332_1659, e332_1662, e332_1663, e332_1666, e332_1669, e332_1670, e1, e2, t1, t2, k0, km, km1, psh0, psh1, cmp3_self, Option.bind_some, List.length_nil, List.length_cons, Nat.reduceAdd, Nat.reduceLeDiff, Nat.zero_le, if_true, eq_self]
set_option maxRecDepth 100000 in
set_option maxHeartbeats 4000000 in
theorem law_waited {Inv : AM → Prop} (hB : Base Inv) (hop : Op_waited Inv) {d : Nat} {i : Int} {h : AM} (hI : Inv h) (h0 : 0 ≤ i) (h6 : i + 6 ≤ mscl h) : ∃ h2, Inv h2 ∧ h2.2.2.2.2 = h.2.2.2.2 ∧ EV (d + 61) 332 1671 [(2, -2), (2, 0), (2, 235), (0, i)] [] h = EV (d + 61) 332 1842 [(2, -2), (2, 0), (2, 235), (0, i)] [] h2 := by
    obtain ⟨k0, km, hx, l0, l1⟩ := hB h hI
    obtain ⟨r, h1, h2, e1, e2, hI2⟩ := hop d h (msc h (i + 1)) hI (hx _)
    have s1 := EV_sc e1
    have s2 := EV_sc e2
    obtain ⟨t1, t2⟩ := sc_of s1
    have km1 := EV_isK e1 km
    have w1 : w32 (i + 1) = i + 1 := w32_id (by omega) (by omega)
    have p1 : 0 ≤ i + 1 := by omega
    have q1 : i + 1 < mscl h := by omega
    refine ⟨h2, hI2, s2.trans s1, ?_⟩
    simp only [e332_1671, e332_1672, e332_1673, e332_1674, e332_1675, e332_1676s, e332_1677, e332_1680, e332_1681, e332_1682, e332_1683, e332_1684, e332_1685s, e332_1686, e332_1689, e332_1692, e332_1693, e1, e2, t1, t2, k0, km, km1, w1, p1, q1, psh0, psh1, cmp3_self, Option.bind_some, List.length_nil, List.length_cons, Nat.reduceAdd, Nat.reduceLeDiff, Nat.zero_le, if_true, eq_self]
set_option maxRecDepth 100000 in
set_option maxHeartbeats 4000000 in
theorem law_began {Inv : AM → Prop} (hB : Base Inv) (hop : Op_began Inv) {d : Nat} {i : Int} {h : AM} (hI : Inv h) (h0 : 0 ≤ i) (h6 : i + 6 ≤ mscl h) : ∃ h2, Inv h2 ∧ h2.2.2.2.2 = h.2.2.2.2 ∧ EV (d + 61) 332 1694 [(2, -2), (2, 0), (2, 235), (0, i)] [] h = EV (d + 61) 332 1842 [(2, -2), (2, 0), (2, 235), (0, i)] [] h2 := by
    obtain ⟨k0, km, hx, l0, l1⟩ := hB h hI
    obtain ⟨r, h1, h2, e1, e2, hI2⟩ := hop d h (msc h (i + 1)) (msc h (i + 2)) hI (hx _) (hx _)
    have s1 := EV_sc e1
    have s2 := EV_sc e2
    obtain ⟨t1, t2⟩ := sc_of s1
    have km1 := EV_isK e1 km
    have w1 : w32 (i + 1) = i + 1 := w32_id (by omega) (by omega)
    have w2 : w32 (i + 2) = i + 2 := w32_id (by omega) (by omega)
    have p1 : 0 ≤ i + 1 := by omega
    have q1 : i + 1 < mscl h := by omega
    have p2 : 0 ≤ i + 2 := by omega
    have q2 : i + 2 < mscl h := by omega
    refine ⟨h2, hI2, s2.trans s1, ?_⟩
    simp only [e332_1694, e332_1695, e332_1696, e332_1697, e332_1698, e332_1699s, e332_1700, e332_1701, e332_1702, e332_1703, e332_1704s, e332_1705, e332_1708, e332_1709, e332_1710, e332_1711, e332_1712, e332_1713s, e332_1714, e332_1715, e332_1716, e332_1717, e332_1718s, e332_1719, e332_1722, e332_1725, e332_1726, e1, e2, t1, t2, k0, km, km1, w1, p1, q1, w2, p2, q2, psh0, psh1, cmp3_self, Option.bind_some, List.length_nil, List.length_cons, Nat.reduceAdd, Nat.reduceLeDiff, Nat.zero_le, if_true, eq_self]
set_option maxRecDepth 100000 in
set_option maxHeartbeats 4000000 in
theorem law_live {Inv : AM → Prop} (hB : Base Inv) (hop : Op_live Inv) {d : Nat} {i : Int} {h : AM} (hI : Inv h) (h0 : 0 ≤ i) (h6 : i + 6 ≤ mscl h) : ∃ h2, Inv h2 ∧ h2.2.2.2.2 = h.2.2.2.2 ∧ EV (d + 61) 332 1727 [(2, -2), (2, 0), (2, 235), (0, i)] [] h = EV (d + 61) 332 1842 [(2, -2), (2, 0), (2, 235), (0, i)] [] h2 := by
    obtain ⟨k0, km, hx, l0, l1⟩ := hB h hI
    obtain ⟨r, h1, h2, e1, e2, hI2⟩ := hop d h (msc h (i + 1)) hI (hx _)
    have s1 := EV_sc e1
    have s2 := EV_sc e2
    obtain ⟨t1, t2⟩ := sc_of s1
    have km1 := EV_isK e1 km
    have w1 : w32 (i + 1) = i + 1 := w32_id (by omega) (by omega)
    have p1 : 0 ≤ i + 1 := by omega
    have q1 : i + 1 < mscl h := by omega
    refine ⟨h2, hI2, s2.trans s1, ?_⟩
    simp only [e332_1727, e332_1728, e332_1729, e332_1730, e332_1731, e332_1732s, e332_1733, e332_1736, e332_1737, e332_1738, e332_1739, e332_1740, e332_1741s, e332_1742, e332_1745, e332_1748, e332_1749, e1, e2, t1, t2, k0, km, km1, w1, p1, q1, psh0, psh1, cmp3_self, Option.bind_some, List.length_nil, List.length_cons, Nat.reduceAdd, Nat.reduceLeDiff, Nat.zero_le, if_true, eq_self]
set_option maxRecDepth 100000 in
set_option maxHeartbeats 4000000 in
theorem law_lived {Inv : AM → Prop} (hB : Base Inv) (hop : Op_lived Inv) {d : Nat} {i : Int} {h : AM} (hI : Inv h) (h0 : 0 ≤ i) (h6 : i + 6 ≤ mscl h) : ∃ h2, Inv h2 ∧ h2.2.2.2.2 = h.2.2.2.2 ∧ EV (d + 61) 332 1750 [(2, -2), (2, 0), (2, 235), (0, i)] [] h = EV (d + 61) 332 1842 [(2, -2), (2, 0), (2, 235), (0, i)] [] h2 := by
    obtain ⟨k0, km, hx, l0, l1⟩ := hB h hI
    obtain ⟨r, h1, h2, e1, e2, hI2⟩ := hop d h (msc h (i + 1)) hI (hx _)
    have s1 := EV_sc e1
    have s2 := EV_sc e2
    obtain ⟨t1, t2⟩ := sc_of s1
    have km1 := EV_isK e1 km
    have w1 : w32 (i + 1) = i + 1 := w32_id (by omega) (by omega)
    have p1 : 0 ≤ i + 1 := by omega
    have q1 : i + 1 < mscl h := by omega
    refine ⟨h2, hI2, s2.trans s1, ?_⟩
    simp only [e332_1750, e332_1751, e332_1752, e332_1753, e332_1754, e332_1755s, e332_1756, e332_1759, e332_1760, e332_1761, e332_1762, e332_1763, e332_1764s, e332_1765, e332_1768, e332_1771, e332_1772, e1, e2, t1, t2, k0, km, km1, w1, p1, q1, psh0, psh1, cmp3_self, Option.bind_some, List.length_nil, List.length_cons, Nat.reduceAdd, Nat.reduceLeDiff, Nat.zero_le, if_true, eq_self]
set_option maxRecDepth 100000 in
set_option maxHeartbeats 4000000 in
theorem law_odds {Inv : AM → Prop} (hB : Base Inv) (hop : Op_odds Inv) {d : Nat} {i : Int} {h : AM} (hI : Inv h) (h0 : 0 ≤ i) (h6 : i + 6 ≤ mscl h) : ∃ h2, Inv h2 ∧ h2.2.2.2.2 = h.2.2.2.2 ∧ EV (d + 61) 332 1773 [(2, -2), (2, 0), (2, 235), (0, i)] [] h = EV (d + 61) 332 1842 [(2, -2), (2, 0), (2, 235), (0, i)] [] h2 := by
    obtain ⟨k0, km, hx, l0, l1⟩ := hB h hI
    obtain ⟨r, h1, h2, e1, e2, hI2⟩ := hop d h (msc h (i + 1)) (msc h (i + 2)) (msc h (i + 3)) hI (hx _) (hx _) (hx _)
    have s1 := EV_sc e1
    have s2 := EV_sc e2
    obtain ⟨t1, t2⟩ := sc_of s1
    have km1 := EV_isK e1 km
    have w1 : w32 (i + 1) = i + 1 := w32_id (by omega) (by omega)
    have w2 : w32 (i + 2) = i + 2 := w32_id (by omega) (by omega)
    have w3 : w32 (i + 3) = i + 3 := w32_id (by omega) (by omega)
    have p1 : 0 ≤ i + 1 := by omega
    have q1 : i + 1 < mscl h := by omega
    have p2 : 0 ≤ i + 2 := by omega
    have q2 : i + 2 < mscl h := by omega
    have p3 : 0 ≤ i + 3 := by omega
    have q3 : i + 3 < mscl h := by omega
    refine ⟨h2, hI2, s2.trans s1, ?_⟩
    simp only [e332_1773, e332_1774, e332_1775, e332_1776, e332_1777, e332_1778s, e332_1779, e332_1780, e332_1781, e332_1782, e332_1783s, e332_1784, e332_1785, e332_1786, e332_1787, e332_1788s, e332_1789, e332_1792, e332_1793, e332_1794, e332_1795, e332_1796, e332_1797s, e332_1798, e332_1799, e332_1800, e332_1801, e332_1802s, e332_1803, e332_1804, e332_1805, e332_1806, e332_1807s, e332_1808, e332_1811, e332_1814, e332_1815, e1, e2, t1, t2, k0, km, km1, w1, p1, q1, w2, p2, q2, w3, p3, q3, psh0, psh1, cmp3_self, Option.bind_some, List.length_nil, List.length_cons, Nat.reduceAdd, Nat.reduceLeDiff, Nat.zero_le, if_true, eq_self]
set_option maxRecDepth 100000 in
set_option maxHeartbeats 4000000 in
theorem law_mark {Inv : AM → Prop} (hB : Base Inv) (hop : Op_mark Inv) {d : Nat} {i : Int} {h : AM} (hI : Inv h) (h0 : 0 ≤ i) (h6 : i + 6 ≤ mscl h) : ∃ h2, Inv h2 ∧ h2.2.2.2.2 = h.2.2.2.2 ∧ EV (d + 61) 332 1816 [(2, -2), (2, 0), (2, 235), (0, i)] [] h = EV (d + 61) 332 1842 [(2, -2), (2, 0), (2, 235), (0, i)] [] h2 := by
    obtain ⟨k0, km, hx, l0, l1⟩ := hB h hI
    obtain ⟨r, h1, h2, e1, e2, hI2⟩ := hop d h  hI 
    have s1 := EV_sc e1
    have s2 := EV_sc e2
    obtain ⟨t1, t2⟩ := sc_of s1
    have km1 := EV_isK e1 km
    refine ⟨h2, hI2, s2.trans s1, ?_⟩
    simp only [e332_1816, e332_1817, e332_1820, e332_1821, e332_1824, e332_1827, e332_1828, e1, e2, t1, t2, k0, km, km1, psh0, psh1, cmp3_self, Option.bind_some, List.length_nil, List.length_cons, Nat.reduceAdd, Nat.reduceLeDiff, Nat.zero_le, if_true, eq_self]
set_option maxRecDepth 100000 in
set_option maxHeartbeats 4000000 in
theorem law_back {Inv : AM → Prop} (hB : Base Inv) (hop : Op_back Inv) {d : Nat} {i : Int} {h : AM} (hI : Inv h) (h0 : 0 ≤ i) (h6 : i + 6 ≤ mscl h) : ∃ h2, Inv h2 ∧ h2.2.2.2.2 = h.2.2.2.2 ∧ EV (d + 61) 332 1829 [(2, -2), (2, 0), (2, 235), (0, i)] [] h = EV (d + 61) 332 1842 [(2, -2), (2, 0), (2, 235), (0, i)] [] h2 := by
    obtain ⟨k0, km, hx, l0, l1⟩ := hB h hI
    obtain ⟨r, h1, h2, e1, e2, hI2⟩ := hop d h  hI 
    have s1 := EV_sc e1
    have s2 := EV_sc e2
    obtain ⟨t1, t2⟩ := sc_of s1
    have km1 := EV_isK e1 km
    refine ⟨h2, hI2, s2.trans s1, ?_⟩
    simp only [e332_1829, e332_1830, e332_1833, e332_1834, e332_1837, e332_1840, e332_1841, e1, e2, t1, t2, k0, km, km1, psh0, psh1, cmp3_self, Option.bind_some, List.length_nil, List.length_cons, Nat.reduceAdd, Nat.reduceLeDiff, Nat.zero_le, if_true, eq_self]
