/-! the literals, one by one -/
def zqa0 : String × Nat × String × List Int32 := ("DryRiver$LawText", 24, "raise", [114, 97, 105, 115, 101])
theorem zla0 : zLit[0]? = some zqa0 := by decide +kernel
theorem zna0 : 1 ≤ zqa0.2.2.2.length ∧ zqa0.2.2.2.length ≤ 7 := by decide +kernel
theorem zra0 {g : zG} {A : Nat → Prop} {s : State} (h : zLt g A s) : vk_R RX2 24 "raise" (g.2 10) s := (h.2.2 0 zqa0 zla0).1
theorem zva0 {g : zG} {A : Nat → Prop} {s : State} {H : Heap} {locs : List Loc} (h : zLt g A s) (hS : va_S A s.heap H locs) : ∃ cell : Cell, H[g.2 10]? = some cell ∧ cell.vm.isStatics = false ∧ s.vm.findClass "java/lang/String" = some cell.cls := zSt_recv (h.2.2 0 zqa0 zla0).2 hS
def zqa1 : String × Nat × String × List Int32 := ("DryRiver$LawText", 32, "lower", [108, 111, 119, 101, 114])
theorem zla1 : zLit[1]? = some zqa1 := by decide +kernel
theorem zna1 : 1 ≤ zqa1.2.2.2.length ∧ zqa1.2.2.2.length ≤ 7 := by decide +kernel
theorem zra1 {g : zG} {A : Nat → Prop} {s : State} (h : zLt g A s) : vk_R RX2 32 "lower" (g.2 12) s := (h.2.2 1 zqa1 zla1).1
theorem zva1 {g : zG} {A : Nat → Prop} {s : State} {H : Heap} {locs : List Loc} (h : zLt g A s) (hS : va_S A s.heap H locs) : ∃ cell : Cell, H[g.2 12]? = some cell ∧ cell.vm.isStatics = false ∧ s.vm.findClass "java/lang/String" = some cell.cls := zSt_recv (h.2.2 1 zqa1 zla1).2 hS
def zqa2 : String × Nat × String × List Int32 := ("DryRiver$LawText", 45, "if", [105, 102])
theorem zla2 : zLit[2]? = some zqa2 := by decide +kernel
theorem zna2 : 1 ≤ zqa2.2.2.2.length ∧ zqa2.2.2.2.length ≤ 7 := by decide +kernel
theorem zra2 {g : zG} {A : Nat → Prop} {s : State} (h : zLt g A s) : vk_R RX2 45 "if" (g.2 14) s := (h.2.2 2 zqa2 zla2).1
theorem zva2 {g : zG} {A : Nat → Prop} {s : State} {H : Heap} {locs : List Loc} (h : zLt g A s) (hS : va_S A s.heap H locs) : ∃ cell : Cell, H[g.2 14]? = some cell ∧ cell.vm.isStatics = false ∧ s.vm.findClass "java/lang/String" = some cell.cls := zSt_recv (h.2.2 2 zqa2 zla2).2 hS
def zqa3 : String × Nat × String × List Int32 := ("DryRiver$LawText", 64, "and", [97, 110, 100])
theorem zla3 : zLit[3]? = some zqa3 := by decide +kernel
theorem zna3 : 1 ≤ zqa3.2.2.2.length ∧ zqa3.2.2.2.length ≤ 7 := by decide +kernel
theorem zra3 {g : zG} {A : Nat → Prop} {s : State} (h : zLt g A s) : vk_R RX2 64 "and" (g.2 16) s := (h.2.2 3 zqa3 zla3).1
theorem zva3 {g : zG} {A : Nat → Prop} {s : State} {H : Heap} {locs : List Loc} (h : zLt g A s) (hS : va_S A s.heap H locs) : ∃ cell : Cell, H[g.2 16]? = some cell ∧ cell.vm.isStatics = false ∧ s.vm.findClass "java/lang/String" = some cell.cls := zSt_recv (h.2.2 3 zqa3 zla3).2 hS
def zqa4 : String × Nat × String × List Int32 := ("DryRiver$LawText", 66, "or", [111, 114])
theorem zla4 : zLit[4]? = some zqa4 := by decide +kernel
theorem zna4 : 1 ≤ zqa4.2.2.2.length ∧ zqa4.2.2.2.length ≤ 7 := by decide +kernel
theorem zra4 {g : zG} {A : Nat → Prop} {s : State} (h : zLt g A s) : vk_R RX2 66 "or" (g.2 18) s := (h.2.2 4 zqa4 zla4).1
theorem zva4 {g : zG} {A : Nat → Prop} {s : State} {H : Heap} {locs : List Loc} (h : zLt g A s) (hS : va_S A s.heap H locs) : ∃ cell : Cell, H[g.2 18]? = some cell ∧ cell.vm.isStatics = false ∧ s.vm.findClass "java/lang/String" = some cell.cls := zSt_recv (h.2.2 4 zqa4 zla4).2 hS
def zqa5 : String × Nat × String × List Int32 := ("DryRiver$LawText", 68, "not", [110, 111, 116])
theorem zla5 : zLit[5]? = some zqa5 := by decide +kernel
theorem zna5 : 1 ≤ zqa5.2.2.2.length ∧ zqa5.2.2.2.length ≤ 7 := by decide +kernel
theorem zra5 {g : zG} {A : Nat → Prop} {s : State} (h : zLt g A s) : vk_R RX2 68 "not" (g.2 20) s := (h.2.2 5 zqa5 zla5).1
theorem zva5 {g : zG} {A : Nat → Prop} {s : State} {H : Heap} {locs : List Loc} (h : zLt g A s) (hS : va_S A s.heap H locs) : ∃ cell : Cell, H[g.2 20]? = some cell ∧ cell.vm.isStatics = false ∧ s.vm.findClass "java/lang/String" = some cell.cls := zSt_recv (h.2.2 5 zqa5 zla5).2 hS
def zqa6 : String × Nat × String × List Int32 := ("DryRiver$LawText", 77, "dry", [100, 114, 121])
theorem zla6 : zLit[6]? = some zqa6 := by decide +kernel
theorem zna6 : 1 ≤ zqa6.2.2.2.length ∧ zqa6.2.2.2.length ≤ 7 := by decide +kernel
theorem zra6 {g : zG} {A : Nat → Prop} {s : State} (h : zLt g A s) : vk_R RX2 77 "dry" (g.2 22) s := (h.2.2 6 zqa6 zla6).1
theorem zva6 {g : zG} {A : Nat → Prop} {s : State} {H : Heap} {locs : List Loc} (h : zLt g A s) (hS : va_S A s.heap H locs) : ∃ cell : Cell, H[g.2 22]? = some cell ∧ cell.vm.isStatics = false ∧ s.vm.findClass "java/lang/String" = some cell.cls := zSt_recv (h.2.2 6 zqa6 zla6).2 hS
def zqa7 : String × Nat × String × List Int32 := ("DryRiver$LawText", 79, "owner", [111, 119, 110, 101, 114])
theorem zla7 : zLit[7]? = some zqa7 := by decide +kernel
theorem zna7 : 1 ≤ zqa7.2.2.2.length ∧ zqa7.2.2.2.length ≤ 7 := by decide +kernel
theorem zra7 {g : zG} {A : Nat → Prop} {s : State} (h : zLt g A s) : vk_R RX2 79 "owner" (g.2 24) s := (h.2.2 7 zqa7 zla7).1
theorem zva7 {g : zG} {A : Nat → Prop} {s : State} {H : Heap} {locs : List Loc} (h : zLt g A s) (hS : va_S A s.heap H locs) : ∃ cell : Cell, H[g.2 24]? = some cell ∧ cell.vm.isStatics = false ∧ s.vm.findClass "java/lang/String" = some cell.cls := zSt_recv (h.2.2 7 zqa7 zla7).2 hS
def zqa8 : String × Nat × String × List Int32 := ("DryRiver$LawText", 87, "who", [119, 104, 111])
theorem zla8 : zLit[8]? = some zqa8 := by decide +kernel
theorem zna8 : 1 ≤ zqa8.2.2.2.length ∧ zqa8.2.2.2.length ≤ 7 := by decide +kernel
theorem zra8 {g : zG} {A : Nat → Prop} {s : State} (h : zLt g A s) : vk_R RX2 87 "who" (g.2 26) s := (h.2.2 8 zqa8 zla8).1
theorem zva8 {g : zG} {A : Nat → Prop} {s : State} {H : Heap} {locs : List Loc} (h : zLt g A s) (hS : va_S A s.heap H locs) : ∃ cell : Cell, H[g.2 26]? = some cell ∧ cell.vm.isStatics = false ∧ s.vm.findClass "java/lang/String" = some cell.cls := zSt_recv (h.2.2 8 zqa8 zla8).2 hS
def zqa9 : String × Nat × String × List Int32 := ("DryRiver$LawText", 89, "belief", [98, 101, 108, 105, 101, 102])
theorem zla9 : zLit[9]? = some zqa9 := by decide +kernel
theorem zna9 : 1 ≤ zqa9.2.2.2.length ∧ zqa9.2.2.2.length ≤ 7 := by decide +kernel
theorem zra9 {g : zG} {A : Nat → Prop} {s : State} (h : zLt g A s) : vk_R RX2 89 "belief" (g.2 28) s := (h.2.2 9 zqa9 zla9).1
theorem zva9 {g : zG} {A : Nat → Prop} {s : State} {H : Heap} {locs : List Loc} (h : zLt g A s) (hS : va_S A s.heap H locs) : ∃ cell : Cell, H[g.2 28]? = some cell ∧ cell.vm.isStatics = false ∧ s.vm.findClass "java/lang/String" = some cell.cls := zSt_recv (h.2.2 9 zqa9 zla9).2 hS
def zqa10 : String × Nat × String × List Int32 := ("DryRiver$LawText", 91, "mean", [109, 101, 97, 110])
theorem zla10 : zLit[10]? = some zqa10 := by decide +kernel
theorem zna10 : 1 ≤ zqa10.2.2.2.length ∧ zqa10.2.2.2.length ≤ 7 := by decide +kernel
theorem zra10 {g : zG} {A : Nat → Prop} {s : State} (h : zLt g A s) : vk_R RX2 91 "mean" (g.2 30) s := (h.2.2 10 zqa10 zla10).1
theorem zva10 {g : zG} {A : Nat → Prop} {s : State} {H : Heap} {locs : List Loc} (h : zLt g A s) (hS : va_S A s.heap H locs) : ∃ cell : Cell, H[g.2 30]? = some cell ∧ cell.vm.isStatics = false ∧ s.vm.findClass "java/lang/String" = some cell.cls := zSt_recv (h.2.2 10 zqa10 zla10).2 hS
def zqa11 : String × Nat × String × List Int32 := ("DryRiver$LawText", 93, "works", [119, 111, 114, 107, 115])
theorem zla11 : zLit[11]? = some zqa11 := by decide +kernel
theorem zna11 : 1 ≤ zqa11.2.2.2.length ∧ zqa11.2.2.2.length ≤ 7 := by decide +kernel
theorem zra11 {g : zG} {A : Nat → Prop} {s : State} (h : zLt g A s) : vk_R RX2 93 "works" (g.2 32) s := (h.2.2 11 zqa11 zla11).1
theorem zva11 {g : zG} {A : Nat → Prop} {s : State} {H : Heap} {locs : List Loc} (h : zLt g A s) (hS : va_S A s.heap H locs) : ∃ cell : Cell, H[g.2 32]? = some cell ∧ cell.vm.isStatics = false ∧ s.vm.findClass "java/lang/String" = some cell.cls := zSt_recv (h.2.2 11 zqa11 zla11).2 hS
def zqa12 : String × Nat × String × List Int32 := ("DryRiver$LawText", 95, "ties", [116, 105, 101, 115])
theorem zla12 : zLit[12]? = some zqa12 := by decide +kernel
theorem zna12 : 1 ≤ zqa12.2.2.2.length ∧ zqa12.2.2.2.length ≤ 7 := by decide +kernel
theorem zra12 {g : zG} {A : Nat → Prop} {s : State} (h : zLt g A s) : vk_R RX2 95 "ties" (g.2 34) s := (h.2.2 12 zqa12 zla12).1
theorem zva12 {g : zG} {A : Nat → Prop} {s : State} {H : Heap} {locs : List Loc} (h : zLt g A s) (hS : va_S A s.heap H locs) : ∃ cell : Cell, H[g.2 34]? = some cell ∧ cell.vm.isStatics = false ∧ s.vm.findClass "java/lang/String" = some cell.cls := zSt_recv (h.2.2 12 zqa12 zla12).2 hS
def zqa13 : String × Nat × String × List Int32 := ("DryRiver$LawText", 97, "day", [100, 97, 121])
theorem zla13 : zLit[13]? = some zqa13 := by decide +kernel
theorem zna13 : 1 ≤ zqa13.2.2.2.length ∧ zqa13.2.2.2.length ≤ 7 := by decide +kernel
theorem zra13 {g : zG} {A : Nat → Prop} {s : State} (h : zLt g A s) : vk_R RX2 97 "day" (g.2 36) s := (h.2.2 13 zqa13 zla13).1
theorem zva13 {g : zG} {A : Nat → Prop} {s : State} {H : Heap} {locs : List Loc} (h : zLt g A s) (hS : va_S A s.heap H locs) : ∃ cell : Cell, H[g.2 36]? = some cell ∧ cell.vm.isStatics = false ∧ s.vm.findClass "java/lang/String" = some cell.cls := zSt_recv (h.2.2 13 zqa13 zla13).2 hS
def zqa14 : String × Nat × String × List Int32 := ("DryRiver$TownText", 24, "person", [112, 101, 114, 115, 111, 110])
theorem zla14 : zLit[14]? = some zqa14 := by decide +kernel
theorem zna14 : 1 ≤ zqa14.2.2.2.length ∧ zqa14.2.2.2.length ≤ 7 := by decide +kernel
theorem zra14 {g : zG} {A : Nat → Prop} {s : State} (h : zLt g A s) : vk_R RX10 24 "person" (g.2 38) s := (h.2.2 14 zqa14 zla14).1
theorem zva14 {g : zG} {A : Nat → Prop} {s : State} {H : Heap} {locs : List Loc} (h : zLt g A s) (hS : va_S A s.heap H locs) : ∃ cell : Cell, H[g.2 38]? = some cell ∧ cell.vm.isStatics = false ∧ s.vm.findClass "java/lang/String" = some cell.cls := zSt_recv (h.2.2 14 zqa14 zla14).2 hS
def zqa15 : String × Nat × String × List Int32 := ("DryRiver$TownText", 36, "work", [119, 111, 114, 107])
theorem zla15 : zLit[15]? = some zqa15 := by decide +kernel
theorem zna15 : 1 ≤ zqa15.2.2.2.length ∧ zqa15.2.2.2.length ≤ 7 := by decide +kernel
theorem zra15 {g : zG} {A : Nat → Prop} {s : State} (h : zLt g A s) : vk_R RX10 36 "work" (g.2 40) s := (h.2.2 15 zqa15 zla15).1
theorem zva15 {g : zG} {A : Nat → Prop} {s : State} {H : Heap} {locs : List Loc} (h : zLt g A s) (hS : va_S A s.heap H locs) : ∃ cell : Cell, H[g.2 40]? = some cell ∧ cell.vm.isStatics = false ∧ s.vm.findClass "java/lang/String" = some cell.cls := zSt_recv (h.2.2 15 zqa15 zla15).2 hS
def zqa16 : String × Nat × String × List Int32 := ("DryRiver$TownText", 41, "trusts", [116, 114, 117, 115, 116, 115])
theorem zla16 : zLit[16]? = some zqa16 := by decide +kernel
theorem zna16 : 1 ≤ zqa16.2.2.2.length ∧ zqa16.2.2.2.length ≤ 7 := by decide +kernel
theorem zra16 {g : zG} {A : Nat → Prop} {s : State} (h : zLt g A s) : vk_R RX10 41 "trusts" (g.2 42) s := (h.2.2 16 zqa16 zla16).1
theorem zva16 {g : zG} {A : Nat → Prop} {s : State} {H : Heap} {locs : List Loc} (h : zLt g A s) (hS : va_S A s.heap H locs) : ∃ cell : Cell, H[g.2 42]? = some cell ∧ cell.vm.isStatics = false ∧ s.vm.findClass "java/lang/String" = some cell.cls := zSt_recv (h.2.2 16 zqa16 zla16).2 hS
def zqa17 : String × Nat × String × List Int32 := ("DryRiver$TownText", 49, "shares", [115, 104, 97, 114, 101, 115])
theorem zla17 : zLit[17]? = some zqa17 := by decide +kernel
theorem zna17 : 1 ≤ zqa17.2.2.2.length ∧ zqa17.2.2.2.length ≤ 7 := by decide +kernel
theorem zra17 {g : zG} {A : Nat → Prop} {s : State} (h : zLt g A s) : vk_R RX10 49 "shares" (g.2 44) s := (h.2.2 17 zqa17 zla17).1
theorem zva17 {g : zG} {A : Nat → Prop} {s : State} {H : Heap} {locs : List Loc} (h : zLt g A s) (hS : va_S A s.heap H locs) : ∃ cell : Cell, H[g.2 44]? = some cell ∧ cell.vm.isStatics = false ∧ s.vm.findClass "java/lang/String" = some cell.cls := zSt_recv (h.2.2 17 zqa17 zla17).2 hS
def zqa18 : String × Nat × String × List Int32 := ("DryRiver$TownText", 54, "chest", [99, 104, 101, 115, 116])
theorem zla18 : zLit[18]? = some zqa18 := by decide +kernel
theorem zna18 : 1 ≤ zqa18.2.2.2.length ∧ zqa18.2.2.2.length ≤ 7 := by decide +kernel
theorem zra18 {g : zG} {A : Nat → Prop} {s : State} (h : zLt g A s) : vk_R RX10 54 "chest" (g.2 46) s := (h.2.2 18 zqa18 zla18).1
theorem zva18 {g : zG} {A : Nat → Prop} {s : State} {H : Heap} {locs : List Loc} (h : zLt g A s) (hS : va_S A s.heap H locs) : ∃ cell : Cell, H[g.2 46]? = some cell ∧ cell.vm.isStatics = false ∧ s.vm.findClass "java/lang/String" = some cell.cls := zSt_recv (h.2.2 18 zqa18 zla18).2 hS
def zqa19 : String × Nat × String × List Int32 := ("DryRiver$TownText", 63, "journey", [106, 111, 117, 114, 110, 101, 121])
theorem zla19 : zLit[19]? = some zqa19 := by decide +kernel
theorem zna19 : 1 ≤ zqa19.2.2.2.length ∧ zqa19.2.2.2.length ≤ 7 := by decide +kernel
theorem zra19 {g : zG} {A : Nat → Prop} {s : State} (h : zLt g A s) : vk_R RX10 63 "journey" (g.2 48) s := (h.2.2 19 zqa19 zla19).1
theorem zva19 {g : zG} {A : Nat → Prop} {s : State} {H : Heap} {locs : List Loc} (h : zLt g A s) (hS : va_S A s.heap H locs) : ∃ cell : Cell, H[g.2 48]? = some cell ∧ cell.vm.isStatics = false ∧ s.vm.findClass "java/lang/String" = some cell.cls := zSt_recv (h.2.2 19 zqa19 zla19).2 hS
def zqa20 : String × Nat × String × List Int32 := ("DryRiver$TownText", 67, "truth", [116, 114, 117, 116, 104])
theorem zla20 : zLit[20]? = some zqa20 := by decide +kernel
theorem zna20 : 1 ≤ zqa20.2.2.2.length ∧ zqa20.2.2.2.length ≤ 7 := by decide +kernel
theorem zra20 {g : zG} {A : Nat → Prop} {s : State} (h : zLt g A s) : vk_R RX10 67 "truth" (g.2 50) s := (h.2.2 20 zqa20 zla20).1
theorem zva20 {g : zG} {A : Nat → Prop} {s : State} {H : Heap} {locs : List Loc} (h : zLt g A s) (hS : va_S A s.heap H locs) : ∃ cell : Cell, H[g.2 50]? = some cell ∧ cell.vm.isStatics = false ∧ s.vm.findClass "java/lang/String" = some cell.cls := zSt_recv (h.2.2 20 zqa20 zla20).2 hS
def zqa21 : String × Nat × String × List Int32 := ("DryRiver$TownText", 71, "day", [100, 97, 121])
theorem zla21 : zLit[21]? = some zqa21 := by decide +kernel
theorem zna21 : 1 ≤ zqa21.2.2.2.length ∧ zqa21.2.2.2.length ≤ 7 := by decide +kernel
theorem zra21 {g : zG} {A : Nat → Prop} {s : State} (h : zLt g A s) : vk_R RX10 71 "day" (g.2 52) s := (h.2.2 21 zqa21 zla21).1
theorem zva21 {g : zG} {A : Nat → Prop} {s : State} {H : Heap} {locs : List Loc} (h : zLt g A s) (hS : va_S A s.heap H locs) : ∃ cell : Cell, H[g.2 52]? = some cell ∧ cell.vm.isStatics = false ∧ s.vm.findClass "java/lang/String" = some cell.cls := zSt_recv (h.2.2 21 zqa21 zla21).2 hS
def zqa22 : String × Nat × String × List Int32 := ("DryRiver$TownText", 84, "purse", [112, 117, 114, 115, 101])
theorem zla22 : zLit[22]? = some zqa22 := by decide +kernel
theorem zna22 : 1 ≤ zqa22.2.2.2.length ∧ zqa22.2.2.2.length ≤ 7 := by decide +kernel
theorem zra22 {g : zG} {A : Nat → Prop} {s : State} (h : zLt g A s) : vk_R RX10 84 "purse" (g.2 54) s := (h.2.2 22 zqa22 zla22).1
theorem zva22 {g : zG} {A : Nat → Prop} {s : State} {H : Heap} {locs : List Loc} (h : zLt g A s) (hS : va_S A s.heap H locs) : ∃ cell : Cell, H[g.2 54]? = some cell ∧ cell.vm.isStatics = false ∧ s.vm.findClass "java/lang/String" = some cell.cls := zSt_recv (h.2.2 22 zqa22 zla22).2 hS
def zqa23 : String × Nat × String × List Int32 := ("DryRiver$TownText", 89, "dry", [100, 114, 121])
theorem zla23 : zLit[23]? = some zqa23 := by decide +kernel
theorem zna23 : 1 ≤ zqa23.2.2.2.length ∧ zqa23.2.2.2.length ≤ 7 := by decide +kernel
theorem zra23 {g : zG} {A : Nat → Prop} {s : State} (h : zLt g A s) : vk_R RX10 89 "dry" (g.2 56) s := (h.2.2 23 zqa23 zla23).1
theorem zva23 {g : zG} {A : Nat → Prop} {s : State} {H : Heap} {locs : List Loc} (h : zLt g A s) (hS : va_S A s.heap H locs) : ∃ cell : Cell, H[g.2 56]? = some cell ∧ cell.vm.isStatics = false ∧ s.vm.findClass "java/lang/String" = some cell.cls := zSt_recv (h.2.2 23 zqa23 zla23).2 hS
def zqa24 : String × Nat × String × List Int32 := ("DryRiver$TownText", 98, "need", [110, 101, 101, 100])
theorem zla24 : zLit[24]? = some zqa24 := by decide +kernel
theorem zna24 : 1 ≤ zqa24.2.2.2.length ∧ zqa24.2.2.2.length ≤ 7 := by decide +kernel
theorem zra24 {g : zG} {A : Nat → Prop} {s : State} (h : zLt g A s) : vk_R RX10 98 "need" (g.2 58) s := (h.2.2 24 zqa24 zla24).1
theorem zva24 {g : zG} {A : Nat → Prop} {s : State} {H : Heap} {locs : List Loc} (h : zLt g A s) (hS : va_S A s.heap H locs) : ∃ cell : Cell, H[g.2 58]? = some cell ∧ cell.vm.isStatics = false ∧ s.vm.findClass "java/lang/String" = some cell.cls := zSt_recv (h.2.2 24 zqa24 zla24).2 hS
def zqa25 : String × Nat × String × List Int32 := ("DryRiver$TownText", 100, "gain", [103, 97, 105, 110])
theorem zla25 : zLit[25]? = some zqa25 := by decide +kernel
theorem zna25 : 1 ≤ zqa25.2.2.2.length ∧ zqa25.2.2.2.length ≤ 7 := by decide +kernel
theorem zra25 {g : zG} {A : Nat → Prop} {s : State} (h : zLt g A s) : vk_R RX10 100 "gain" (g.2 60) s := (h.2.2 25 zqa25 zla25).1
theorem zva25 {g : zG} {A : Nat → Prop} {s : State} {H : Heap} {locs : List Loc} (h : zLt g A s) (hS : va_S A s.heap H locs) : ∃ cell : Cell, H[g.2 60]? = some cell ∧ cell.vm.isStatics = false ∧ s.vm.findClass "java/lang/String" = some cell.cls := zSt_recv (h.2.2 25 zqa25 zla25).2 hS
def zqa26 : String × Nat × String × List Int32 := ("DryRiverModel", 115, "purse", [112, 117, 114, 115, 101])
theorem zla26 : zLit[26]? = some zqa26 := by decide +kernel
theorem zna26 : 1 ≤ zqa26.2.2.2.length ∧ zqa26.2.2.2.length ≤ 7 := by decide +kernel
theorem zra26 {g : zG} {A : Nat → Prop} {s : State} (h : zLt g A s) : vk_R RX12 115 "purse" (g.2 62) s := (h.2.2 26 zqa26 zla26).1
theorem zva26 {g : zG} {A : Nat → Prop} {s : State} {H : Heap} {locs : List Loc} (h : zLt g A s) (hS : va_S A s.heap H locs) : ∃ cell : Cell, H[g.2 62]? = some cell ∧ cell.vm.isStatics = false ∧ s.vm.findClass "java/lang/String" = some cell.cls := zSt_recv (h.2.2 26 zqa26 zla26).2 hS
def zqa27 : String × Nat × String × List Int32 := ("DryRiverModel", 121, "dry", [100, 114, 121])
theorem zla27 : zLit[27]? = some zqa27 := by decide +kernel
theorem zna27 : 1 ≤ zqa27.2.2.2.length ∧ zqa27.2.2.2.length ≤ 7 := by decide +kernel
theorem zra27 {g : zG} {A : Nat → Prop} {s : State} (h : zLt g A s) : vk_R RX12 121 "dry" (g.2 64) s := (h.2.2 27 zqa27 zla27).1
theorem zva27 {g : zG} {A : Nat → Prop} {s : State} {H : Heap} {locs : List Loc} (h : zLt g A s) (hS : va_S A s.heap H locs) : ∃ cell : Cell, H[g.2 64]? = some cell ∧ cell.vm.isStatics = false ∧ s.vm.findClass "java/lang/String" = some cell.cls := zSt_recv (h.2.2 27 zqa27 zla27).2 hS
def zqa28 : String × Nat × String × List Int32 := ("DryRiverModel", 127, "need", [110, 101, 101, 100])
theorem zla28 : zLit[28]? = some zqa28 := by decide +kernel
theorem zna28 : 1 ≤ zqa28.2.2.2.length ∧ zqa28.2.2.2.length ≤ 7 := by decide +kernel
theorem zra28 {g : zG} {A : Nat → Prop} {s : State} (h : zLt g A s) : vk_R RX12 127 "need" (g.2 66) s := (h.2.2 28 zqa28 zla28).1
theorem zva28 {g : zG} {A : Nat → Prop} {s : State} {H : Heap} {locs : List Loc} (h : zLt g A s) (hS : va_S A s.heap H locs) : ∃ cell : Cell, H[g.2 66]? = some cell ∧ cell.vm.isStatics = false ∧ s.vm.findClass "java/lang/String" = some cell.cls := zSt_recv (h.2.2 28 zqa28 zla28).2 hS
def zqa29 : String × Nat × String × List Int32 := ("DryRiverModel", 129, "gain", [103, 97, 105, 110])
theorem zla29 : zLit[29]? = some zqa29 := by decide +kernel
theorem zna29 : 1 ≤ zqa29.2.2.2.length ∧ zqa29.2.2.2.length ≤ 7 := by decide +kernel
theorem zra29 {g : zG} {A : Nat → Prop} {s : State} (h : zLt g A s) : vk_R RX12 129 "gain" (g.2 68) s := (h.2.2 29 zqa29 zla29).1
theorem zva29 {g : zG} {A : Nat → Prop} {s : State} {H : Heap} {locs : List Loc} (h : zLt g A s) (hS : va_S A s.heap H locs) : ∃ cell : Cell, H[g.2 68]? = some cell ∧ cell.vm.isStatics = false ∧ s.vm.findClass "java/lang/String" = some cell.cls := zSt_recv (h.2.2 29 zqa29 zla29).2 hS
def zqa30 : String × Nat × String × List Int32 := ("DryRiverModel", 134, "person", [112, 101, 114, 115, 111, 110])
theorem zla30 : zLit[30]? = some zqa30 := by decide +kernel
theorem zna30 : 1 ≤ zqa30.2.2.2.length ∧ zqa30.2.2.2.length ≤ 7 := by decide +kernel
theorem zra30 {g : zG} {A : Nat → Prop} {s : State} (h : zLt g A s) : vk_R RX12 134 "person" (g.2 70) s := (h.2.2 30 zqa30 zla30).1
theorem zva30 {g : zG} {A : Nat → Prop} {s : State} {H : Heap} {locs : List Loc} (h : zLt g A s) (hS : va_S A s.heap H locs) : ∃ cell : Cell, H[g.2 70]? = some cell ∧ cell.vm.isStatics = false ∧ s.vm.findClass "java/lang/String" = some cell.cls := zSt_recv (h.2.2 30 zqa30 zla30).2 hS
def zqa31 : String × Nat × String × List Int32 := ("DryRiverModel", 139, "trusts", [116, 114, 117, 115, 116, 115])
theorem zla31 : zLit[31]? = some zqa31 := by decide +kernel
theorem zna31 : 1 ≤ zqa31.2.2.2.length ∧ zqa31.2.2.2.length ≤ 7 := by decide +kernel
theorem zra31 {g : zG} {A : Nat → Prop} {s : State} (h : zLt g A s) : vk_R RX12 139 "trusts" (g.2 72) s := (h.2.2 31 zqa31 zla31).1
theorem zva31 {g : zG} {A : Nat → Prop} {s : State} {H : Heap} {locs : List Loc} (h : zLt g A s) (hS : va_S A s.heap H locs) : ∃ cell : Cell, H[g.2 72]? = some cell ∧ cell.vm.isStatics = false ∧ s.vm.findClass "java/lang/String" = some cell.cls := zSt_recv (h.2.2 31 zqa31 zla31).2 hS
def zqa32 : String × Nat × String × List Int32 := ("DryRiverModel", 144, "work", [119, 111, 114, 107])
theorem zla32 : zLit[32]? = some zqa32 := by decide +kernel
theorem zna32 : 1 ≤ zqa32.2.2.2.length ∧ zqa32.2.2.2.length ≤ 7 := by decide +kernel
theorem zra32 {g : zG} {A : Nat → Prop} {s : State} (h : zLt g A s) : vk_R RX12 144 "work" (g.2 74) s := (h.2.2 32 zqa32 zla32).1
theorem zva32 {g : zG} {A : Nat → Prop} {s : State} {H : Heap} {locs : List Loc} (h : zLt g A s) (hS : va_S A s.heap H locs) : ∃ cell : Cell, H[g.2 74]? = some cell ∧ cell.vm.isStatics = false ∧ s.vm.findClass "java/lang/String" = some cell.cls := zSt_recv (h.2.2 32 zqa32 zla32).2 hS
def zqa33 : String × Nat × String × List Int32 := ("DryRiverModel", 149, "chest", [99, 104, 101, 115, 116])
theorem zla33 : zLit[33]? = some zqa33 := by decide +kernel
theorem zna33 : 1 ≤ zqa33.2.2.2.length ∧ zqa33.2.2.2.length ≤ 7 := by decide +kernel
theorem zra33 {g : zG} {A : Nat → Prop} {s : State} (h : zLt g A s) : vk_R RX12 149 "chest" (g.2 76) s := (h.2.2 33 zqa33 zla33).1
theorem zva33 {g : zG} {A : Nat → Prop} {s : State} {H : Heap} {locs : List Loc} (h : zLt g A s) (hS : va_S A s.heap H locs) : ∃ cell : Cell, H[g.2 76]? = some cell ∧ cell.vm.isStatics = false ∧ s.vm.findClass "java/lang/String" = some cell.cls := zSt_recv (h.2.2 33 zqa33 zla33).2 hS
def zqa34 : String × Nat × String × List Int32 := ("DryRiverModel", 154, "journey", [106, 111, 117, 114, 110, 101, 121])
theorem zla34 : zLit[34]? = some zqa34 := by decide +kernel
theorem zna34 : 1 ≤ zqa34.2.2.2.length ∧ zqa34.2.2.2.length ≤ 7 := by decide +kernel
theorem zra34 {g : zG} {A : Nat → Prop} {s : State} (h : zLt g A s) : vk_R RX12 154 "journey" (g.2 78) s := (h.2.2 34 zqa34 zla34).1
theorem zva34 {g : zG} {A : Nat → Prop} {s : State} {H : Heap} {locs : List Loc} (h : zLt g A s) (hS : va_S A s.heap H locs) : ∃ cell : Cell, H[g.2 78]? = some cell ∧ cell.vm.isStatics = false ∧ s.vm.findClass "java/lang/String" = some cell.cls := zSt_recv (h.2.2 34 zqa34 zla34).2 hS
def zqa35 : String × Nat × String × List Int32 := ("DryRiverModel", 156, "truth", [116, 114, 117, 116, 104])
theorem zla35 : zLit[35]? = some zqa35 := by decide +kernel
theorem zna35 : 1 ≤ zqa35.2.2.2.length ∧ zqa35.2.2.2.length ≤ 7 := by decide +kernel
theorem zra35 {g : zG} {A : Nat → Prop} {s : State} (h : zLt g A s) : vk_R RX12 156 "truth" (g.2 80) s := (h.2.2 35 zqa35 zla35).1
theorem zva35 {g : zG} {A : Nat → Prop} {s : State} {H : Heap} {locs : List Loc} (h : zLt g A s) (hS : va_S A s.heap H locs) : ∃ cell : Cell, H[g.2 80]? = some cell ∧ cell.vm.isStatics = false ∧ s.vm.findClass "java/lang/String" = some cell.cls := zSt_recv (h.2.2 35 zqa35 zla35).2 hS
def zqa36 : String × Nat × String × List Int32 := ("DryRiverModel", 158, "shares", [115, 104, 97, 114, 101, 115])
theorem zla36 : zLit[36]? = some zqa36 := by decide +kernel
theorem zna36 : 1 ≤ zqa36.2.2.2.length ∧ zqa36.2.2.2.length ≤ 7 := by decide +kernel
theorem zra36 {g : zG} {A : Nat → Prop} {s : State} (h : zLt g A s) : vk_R RX12 158 "shares" (g.2 82) s := (h.2.2 36 zqa36 zla36).1
theorem zva36 {g : zG} {A : Nat → Prop} {s : State} {H : Heap} {locs : List Loc} (h : zLt g A s) (hS : va_S A s.heap H locs) : ∃ cell : Cell, H[g.2 82]? = some cell ∧ cell.vm.isStatics = false ∧ s.vm.findClass "java/lang/String" = some cell.cls := zSt_recv (h.2.2 36 zqa36 zla36).2 hS
def zqa37 : String × Nat × String × List Int32 := ("DryRiverModel", 160, "day", [100, 97, 121])
theorem zla37 : zLit[37]? = some zqa37 := by decide +kernel
theorem zna37 : 1 ≤ zqa37.2.2.2.length ∧ zqa37.2.2.2.length ≤ 7 := by decide +kernel
theorem zra37 {g : zG} {A : Nat → Prop} {s : State} (h : zLt g A s) : vk_R RX12 160 "day" (g.2 84) s := (h.2.2 37 zqa37 zla37).1
theorem zva37 {g : zG} {A : Nat → Prop} {s : State} {H : Heap} {locs : List Loc} (h : zLt g A s) (hS : va_S A s.heap H locs) : ∃ cell : Cell, H[g.2 84]? = some cell ∧ cell.vm.isStatics = false ∧ s.vm.findClass "java/lang/String" = some cell.cls := zSt_recv (h.2.2 37 zqa37 zla37).2 hS
def zqa38 : String × Nat × String × List Int32 := ("DryRiverModel", 190, "who", [119, 104, 111])
theorem zla38 : zLit[38]? = some zqa38 := by decide +kernel
theorem zna38 : 1 ≤ zqa38.2.2.2.length ∧ zqa38.2.2.2.length ≤ 7 := by decide +kernel
theorem zra38 {g : zG} {A : Nat → Prop} {s : State} (h : zLt g A s) : vk_R RX12 190 "who" (g.2 86) s := (h.2.2 38 zqa38 zla38).1
theorem zva38 {g : zG} {A : Nat → Prop} {s : State} {H : Heap} {locs : List Loc} (h : zLt g A s) (hS : va_S A s.heap H locs) : ∃ cell : Cell, H[g.2 86]? = some cell ∧ cell.vm.isStatics = false ∧ s.vm.findClass "java/lang/String" = some cell.cls := zSt_recv (h.2.2 38 zqa38 zla38).2 hS
def zqa39 : String × Nat × String × List Int32 := ("DryRiverModel", 192, "belief", [98, 101, 108, 105, 101, 102])
theorem zla39 : zLit[39]? = some zqa39 := by decide +kernel
theorem zna39 : 1 ≤ zqa39.2.2.2.length ∧ zqa39.2.2.2.length ≤ 7 := by decide +kernel
theorem zra39 {g : zG} {A : Nat → Prop} {s : State} (h : zLt g A s) : vk_R RX12 192 "belief" (g.2 88) s := (h.2.2 39 zqa39 zla39).1
theorem zva39 {g : zG} {A : Nat → Prop} {s : State} {H : Heap} {locs : List Loc} (h : zLt g A s) (hS : va_S A s.heap H locs) : ∃ cell : Cell, H[g.2 88]? = some cell ∧ cell.vm.isStatics = false ∧ s.vm.findClass "java/lang/String" = some cell.cls := zSt_recv (h.2.2 39 zqa39 zla39).2 hS
def zqa40 : String × Nat × String × List Int32 := ("DryRiverModel", 194, "mean", [109, 101, 97, 110])
theorem zla40 : zLit[40]? = some zqa40 := by decide +kernel
theorem zna40 : 1 ≤ zqa40.2.2.2.length ∧ zqa40.2.2.2.length ≤ 7 := by decide +kernel
theorem zra40 {g : zG} {A : Nat → Prop} {s : State} (h : zLt g A s) : vk_R RX12 194 "mean" (g.2 90) s := (h.2.2 40 zqa40 zla40).1
theorem zva40 {g : zG} {A : Nat → Prop} {s : State} {H : Heap} {locs : List Loc} (h : zLt g A s) (hS : va_S A s.heap H locs) : ∃ cell : Cell, H[g.2 90]? = some cell ∧ cell.vm.isStatics = false ∧ s.vm.findClass "java/lang/String" = some cell.cls := zSt_recv (h.2.2 40 zqa40 zla40).2 hS
def zqa41 : String × Nat × String × List Int32 := ("DryRiverModel", 195, "works", [119, 111, 114, 107, 115])
theorem zla41 : zLit[41]? = some zqa41 := by decide +kernel
theorem zna41 : 1 ≤ zqa41.2.2.2.length ∧ zqa41.2.2.2.length ≤ 7 := by decide +kernel
theorem zra41 {g : zG} {A : Nat → Prop} {s : State} (h : zLt g A s) : vk_R RX12 195 "works" (g.2 92) s := (h.2.2 41 zqa41 zla41).1
theorem zva41 {g : zG} {A : Nat → Prop} {s : State} {H : Heap} {locs : List Loc} (h : zLt g A s) (hS : va_S A s.heap H locs) : ∃ cell : Cell, H[g.2 92]? = some cell ∧ cell.vm.isStatics = false ∧ s.vm.findClass "java/lang/String" = some cell.cls := zSt_recv (h.2.2 41 zqa41 zla41).2 hS
def zqa42 : String × Nat × String × List Int32 := ("DryRiverModel", 197, "ties", [116, 105, 101, 115])
theorem zla42 : zLit[42]? = some zqa42 := by decide +kernel
theorem zna42 : 1 ≤ zqa42.2.2.2.length ∧ zqa42.2.2.2.length ≤ 7 := by decide +kernel
theorem zra42 {g : zG} {A : Nat → Prop} {s : State} (h : zLt g A s) : vk_R RX12 197 "ties" (g.2 94) s := (h.2.2 42 zqa42 zla42).1
theorem zva42 {g : zG} {A : Nat → Prop} {s : State} {H : Heap} {locs : List Loc} (h : zLt g A s) (hS : va_S A s.heap H locs) : ∃ cell : Cell, H[g.2 94]? = some cell ∧ cell.vm.isStatics = false ∧ s.vm.findClass "java/lang/String" = some cell.cls := zSt_recv (h.2.2 42 zqa42 zla42).2 hS
def zqa43 : String × Nat × String × List Int32 := ("DryRiverModel", 206, "owner", [111, 119, 110, 101, 114])
theorem zla43 : zLit[43]? = some zqa43 := by decide +kernel
theorem zna43 : 1 ≤ zqa43.2.2.2.length ∧ zqa43.2.2.2.length ≤ 7 := by decide +kernel
theorem zra43 {g : zG} {A : Nat → Prop} {s : State} (h : zLt g A s) : vk_R RX12 206 "owner" (g.2 96) s := (h.2.2 43 zqa43 zla43).1
theorem zva43 {g : zG} {A : Nat → Prop} {s : State} {H : Heap} {locs : List Loc} (h : zLt g A s) (hS : va_S A s.heap H locs) : ∃ cell : Cell, H[g.2 96]? = some cell ∧ cell.vm.isStatics = false ∧ s.vm.findClass "java/lang/String" = some cell.cls := zSt_recv (h.2.2 43 zqa43 zla43).2 hS
def zqa44 : String × Nat × String × List Int32 := ("DryRiverModel", 214, "not", [110, 111, 116])
theorem zla44 : zLit[44]? = some zqa44 := by decide +kernel
theorem zna44 : 1 ≤ zqa44.2.2.2.length ∧ zqa44.2.2.2.length ≤ 7 := by decide +kernel
theorem zra44 {g : zG} {A : Nat → Prop} {s : State} (h : zLt g A s) : vk_R RX12 214 "not" (g.2 98) s := (h.2.2 44 zqa44 zla44).1
theorem zva44 {g : zG} {A : Nat → Prop} {s : State} {H : Heap} {locs : List Loc} (h : zLt g A s) (hS : va_S A s.heap H locs) : ∃ cell : Cell, H[g.2 98]? = some cell ∧ cell.vm.isStatics = false ∧ s.vm.findClass "java/lang/String" = some cell.cls := zSt_recv (h.2.2 44 zqa44 zla44).2 hS
def zqa45 : String × Nat × String × List Int32 := ("DryRiverModel", 226, "and", [97, 110, 100])
theorem zla45 : zLit[45]? = some zqa45 := by decide +kernel
theorem zna45 : 1 ≤ zqa45.2.2.2.length ∧ zqa45.2.2.2.length ≤ 7 := by decide +kernel
theorem zra45 {g : zG} {A : Nat → Prop} {s : State} (h : zLt g A s) : vk_R RX12 226 "and" (g.2 100) s := (h.2.2 45 zqa45 zla45).1
theorem zva45 {g : zG} {A : Nat → Prop} {s : State} {H : Heap} {locs : List Loc} (h : zLt g A s) (hS : va_S A s.heap H locs) : ∃ cell : Cell, H[g.2 100]? = some cell ∧ cell.vm.isStatics = false ∧ s.vm.findClass "java/lang/String" = some cell.cls := zSt_recv (h.2.2 45 zqa45 zla45).2 hS
def zqa46 : String × Nat × String × List Int32 := ("DryRiverModel", 231, "or", [111, 114])
theorem zla46 : zLit[46]? = some zqa46 := by decide +kernel
theorem zna46 : 1 ≤ zqa46.2.2.2.length ∧ zqa46.2.2.2.length ≤ 7 := by decide +kernel
theorem zra46 {g : zG} {A : Nat → Prop} {s : State} (h : zLt g A s) : vk_R RX12 231 "or" (g.2 102) s := (h.2.2 46 zqa46 zla46).1
theorem zva46 {g : zG} {A : Nat → Prop} {s : State} {H : Heap} {locs : List Loc} (h : zLt g A s) (hS : va_S A s.heap H locs) : ∃ cell : Cell, H[g.2 102]? = some cell ∧ cell.vm.isStatics = false ∧ s.vm.findClass "java/lang/String" = some cell.cls := zSt_recv (h.2.2 46 zqa46 zla46).2 hS
def zqa47 : String × Nat × String × List Int32 := ("DryRiverModel", 233, "raise", [114, 97, 105, 115, 101])
theorem zla47 : zLit[47]? = some zqa47 := by decide +kernel
theorem zna47 : 1 ≤ zqa47.2.2.2.length ∧ zqa47.2.2.2.length ≤ 7 := by decide +kernel
theorem zra47 {g : zG} {A : Nat → Prop} {s : State} (h : zLt g A s) : vk_R RX12 233 "raise" (g.2 104) s := (h.2.2 47 zqa47 zla47).1
theorem zva47 {g : zG} {A : Nat → Prop} {s : State} {H : Heap} {locs : List Loc} (h : zLt g A s) (hS : va_S A s.heap H locs) : ∃ cell : Cell, H[g.2 104]? = some cell ∧ cell.vm.isStatics = false ∧ s.vm.findClass "java/lang/String" = some cell.cls := zSt_recv (h.2.2 47 zqa47 zla47).2 hS
def zqa48 : String × Nat × String × List Int32 := ("DryRiverModel", 235, "lower", [108, 111, 119, 101, 114])
theorem zla48 : zLit[48]? = some zqa48 := by decide +kernel
theorem zna48 : 1 ≤ zqa48.2.2.2.length ∧ zqa48.2.2.2.length ≤ 7 := by decide +kernel
theorem zra48 {g : zG} {A : Nat → Prop} {s : State} (h : zLt g A s) : vk_R RX12 235 "lower" (g.2 106) s := (h.2.2 48 zqa48 zla48).1
theorem zva48 {g : zG} {A : Nat → Prop} {s : State} {H : Heap} {locs : List Loc} (h : zLt g A s) (hS : va_S A s.heap H locs) : ∃ cell : Cell, H[g.2 106]? = some cell ∧ cell.vm.isStatics = false ∧ s.vm.findClass "java/lang/String" = some cell.cls := zSt_recv (h.2.2 48 zqa48 zla48).2 hS
def zqa49 : String × Nat × String × List Int32 := ("DryRiverModel", 237, "if", [105, 102])
theorem zla49 : zLit[49]? = some zqa49 := by decide +kernel
theorem zna49 : 1 ≤ zqa49.2.2.2.length ∧ zqa49.2.2.2.length ≤ 7 := by decide +kernel
theorem zra49 {g : zG} {A : Nat → Prop} {s : State} (h : zLt g A s) : vk_R RX12 237 "if" (g.2 108) s := (h.2.2 49 zqa49 zla49).1
theorem zva49 {g : zG} {A : Nat → Prop} {s : State} {H : Heap} {locs : List Loc} (h : zLt g A s) (hS : va_S A s.heap H locs) : ∃ cell : Cell, H[g.2 108]? = some cell ∧ cell.vm.isStatics = false ∧ s.vm.findClass "java/lang/String" = some cell.cls := zSt_recv (h.2.2 49 zqa49 zla49).2 hS
