/-! ===== the law: pool entries, its world, its rules ===== -/
theorem mv_9_13 : ZMV 9 13 RX5 yX5_wind cX5_wind 4 (some .int) 2 := ⟨⟨zmem 195 (by decide +kernel) (by decide +kernel), zmem 196 (by decide +kernel) (by decide +kernel), zmem 197 (by decide +kernel) (by decide +kernel), zmem 12 (by decide +kernel) (by decide +kernel), zmem 198 (by decide +kernel) (by decide +kernel)⟩, by decide +kernel, by decide⟩
theorem mv_9_17 : ZMV 9 17 RX6 yX6_wind cX6_wind 4 (some .int) 2 := ⟨⟨zmem 521 (by decide +kernel) (by decide +kernel), zmem 522 (by decide +kernel) (by decide +kernel), zmem 523 (by decide +kernel) (by decide +kernel), zmem 18 (by decide +kernel) (by decide +kernel), zmem 524 (by decide +kernel) (by decide +kernel)⟩, by decide +kernel, by decide⟩
theorem mv_9_18 : ZMV 9 18 RX5 yX5_gives cX5_gives 2 (some .int) 1 := ⟨⟨zmem 225 (by decide +kernel) (by decide +kernel), zmem 226 (by decide +kernel) (by decide +kernel), zmem 227 (by decide +kernel) (by decide +kernel), zmem 12 (by decide +kernel) (by decide +kernel), zmem 228 (by decide +kernel) (by decide +kernel)⟩, by decide +kernel, by decide⟩
theorem mv_9_22 : ZMV 9 22 RX6 yX6_gives cX6_gives 2 (some .int) 1 := ⟨⟨zmem 531 (by decide +kernel) (by decide +kernel), zmem 532 (by decide +kernel) (by decide +kernel), zmem 533 (by decide +kernel) (by decide +kernel), zmem 18 (by decide +kernel) (by decide +kernel), zmem 534 (by decide +kernel) (by decide +kernel)⟩, by decide +kernel, by decide⟩
theorem mv_9_23 : ZMV 9 23 RX5 yX5_still cX5_still 2 (some .long) 1 := ⟨⟨zmem 230 (by decide +kernel) (by decide +kernel), zmem 231 (by decide +kernel) (by decide +kernel), zmem 232 (by decide +kernel) (by decide +kernel), zmem 12 (by decide +kernel) (by decide +kernel), zmem 233 (by decide +kernel) (by decide +kernel)⟩, by decide +kernel, by decide⟩
theorem mv_9_27 : ZMV 9 27 RX6 yX6_still cX6_still 2 (some .long) 1 := ⟨⟨zmem 550 (by decide +kernel) (by decide +kernel), zmem 551 (by decide +kernel) (by decide +kernel), zmem 552 (by decide +kernel) (by decide +kernel), zmem 18 (by decide +kernel) (by decide +kernel), zmem 553 (by decide +kernel) (by decide +kernel)⟩, by decide +kernel, by decide⟩
theorem mv_9_28 : ZMV 9 28 RX5 yX5_change cX5_change 1 (some .long) 0 := ⟨⟨zmem 235 (by decide +kernel) (by decide +kernel), zmem 236 (by decide +kernel) (by decide +kernel), zmem 237 (by decide +kernel) (by decide +kernel), zmem 12 (by decide +kernel) (by decide +kernel), zmem 238 (by decide +kernel) (by decide +kernel)⟩, by decide +kernel, by decide⟩
theorem mv_9_32 : ZMV 9 32 RX6 yX6_change cX6_change 6 (some .long) 0 := ⟨⟨zmem 566 (by decide +kernel) (by decide +kernel), zmem 567 (by decide +kernel) (by decide +kernel), zmem 568 (by decide +kernel) (by decide +kernel), zmem 18 (by decide +kernel) (by decide +kernel), zmem 569 (by decide +kernel) (by decide +kernel)⟩, by decide +kernel, by decide⟩
theorem mv_9_33 : ZMV 9 33 RX5 yX5_sheet cX5_sheet 4 (some .int) 3 := ⟨⟨zmem 243 (by decide +kernel) (by decide +kernel), zmem 244 (by decide +kernel) (by decide +kernel), zmem 245 (by decide +kernel) (by decide +kernel), zmem 12 (by decide +kernel) (by decide +kernel), zmem 246 (by decide +kernel) (by decide +kernel)⟩, by decide +kernel, by decide⟩
theorem mv_9_37 : ZMV 9 37 RX6 yX6_sheet cX6_sheet 5 (some .int) 3 := ⟨⟨zmem 570 (by decide +kernel) (by decide +kernel), zmem 571 (by decide +kernel) (by decide +kernel), zmem 572 (by decide +kernel) (by decide +kernel), zmem 18 (by decide +kernel) (by decide +kernel), zmem 573 (by decide +kernel) (by decide +kernel)⟩, by decide +kernel, by decide⟩
theorem mv_9_38 : ZMV 9 38 RX5 yX5_drop cX5_drop 3 (some .int) 1 := ⟨⟨zmem 257 (by decide +kernel) (by decide +kernel), zmem 258 (by decide +kernel) (by decide +kernel), zmem 259 (by decide +kernel) (by decide +kernel), zmem 12 (by decide +kernel) (by decide +kernel), zmem 260 (by decide +kernel) (by decide +kernel)⟩, by decide +kernel, by decide⟩
theorem mv_9_41 : ZMV 9 41 RX6 yX6_drop cX6_drop 2 (some .int) 1 := ⟨⟨zmem 578 (by decide +kernel) (by decide +kernel), zmem 579 (by decide +kernel) (by decide +kernel), zmem 580 (by decide +kernel) (by decide +kernel), zmem 18 (by decide +kernel) (by decide +kernel), zmem 581 (by decide +kernel) (by decide +kernel)⟩, by decide +kernel, by decide⟩
theorem mv_9_42 : ZMV 9 42 RX5 yX5_item cX5_item 6 (some .int) 4 := ⟨⟨zmem 261 (by decide +kernel) (by decide +kernel), zmem 262 (by decide +kernel) (by decide +kernel), zmem 263 (by decide +kernel) (by decide +kernel), zmem 12 (by decide +kernel) (by decide +kernel), zmem 264 (by decide +kernel) (by decide +kernel)⟩, by decide +kernel, by decide⟩
theorem mv_9_46 : ZMV 9 46 RX6 yX6_item cX6_item 6 (some .int) 4 := ⟨⟨zmem 582 (by decide +kernel) (by decide +kernel), zmem 583 (by decide +kernel) (by decide +kernel), zmem 584 (by decide +kernel) (by decide +kernel), zmem 18 (by decide +kernel) (by decide +kernel), zmem 585 (by decide +kernel) (by decide +kernel)⟩, by decide +kernel, by decide⟩
theorem mv_9_47 : ZMV 9 47 RX5 yX5_source cX5_source 6 (some .int) 4 := ⟨⟨zmem 269 (by decide +kernel) (by decide +kernel), zmem 270 (by decide +kernel) (by decide +kernel), zmem 271 (by decide +kernel) (by decide +kernel), zmem 12 (by decide +kernel) (by decide +kernel), zmem 272 (by decide +kernel) (by decide +kernel)⟩, by decide +kernel, by decide⟩
theorem mv_9_50 : ZMV 9 50 RX6 yX6_source cX6_source 8 (some .int) 4 := ⟨⟨zmem 590 (by decide +kernel) (by decide +kernel), zmem 591 (by decide +kernel) (by decide +kernel), zmem 592 (by decide +kernel) (by decide +kernel), zmem 18 (by decide +kernel) (by decide +kernel), zmem 593 (by decide +kernel) (by decide +kernel)⟩, by decide +kernel, by decide⟩
theorem mv_9_51 : ZMV 9 51 RX5 yX5_door cX5_door 3 (some .int) 2 := ⟨⟨zmem 282 (by decide +kernel) (by decide +kernel), zmem 283 (by decide +kernel) (by decide +kernel), zmem 284 (by decide +kernel) (by decide +kernel), zmem 12 (by decide +kernel) (by decide +kernel), zmem 285 (by decide +kernel) (by decide +kernel)⟩, by decide +kernel, by decide⟩
theorem mv_9_54 : ZMV 9 54 RX6 yX6_door cX6_door 4 (some .int) 2 := ⟨⟨zmem 603 (by decide +kernel) (by decide +kernel), zmem 604 (by decide +kernel) (by decide +kernel), zmem 605 (by decide +kernel) (by decide +kernel), zmem 18 (by decide +kernel) (by decide +kernel), zmem 606 (by decide +kernel) (by decide +kernel)⟩, by decide +kernel, by decide⟩
theorem mv_9_55 : ZMV 9 55 RX5 yX5_lose cX5_lose 4 (some .int) 2 := ⟨⟨zmem 290 (by decide +kernel) (by decide +kernel), zmem 291 (by decide +kernel) (by decide +kernel), zmem 292 (by decide +kernel) (by decide +kernel), zmem 12 (by decide +kernel) (by decide +kernel), zmem 293 (by decide +kernel) (by decide +kernel)⟩, by decide +kernel, by decide⟩
theorem mv_9_59 : ZMV 9 59 RX6 yX6_lose cX6_lose 4 (some .int) 2 := ⟨⟨zmem 610 (by decide +kernel) (by decide +kernel), zmem 611 (by decide +kernel) (by decide +kernel), zmem 612 (by decide +kernel) (by decide +kernel), zmem 18 (by decide +kernel) (by decide +kernel), zmem 613 (by decide +kernel) (by decide +kernel)⟩, by decide +kernel, by decide⟩
theorem mv_9_60 : ZMV 9 60 RX5 yX5_hours cX5_hours 4 (some .int) 2 := ⟨⟨zmem 294 (by decide +kernel) (by decide +kernel), zmem 295 (by decide +kernel) (by decide +kernel), zmem 296 (by decide +kernel) (by decide +kernel), zmem 12 (by decide +kernel) (by decide +kernel), zmem 297 (by decide +kernel) (by decide +kernel)⟩, by decide +kernel, by decide⟩
theorem mv_9_63 : ZMV 9 63 RX6 yX6_hours cX6_hours 5 (some .int) 2 := ⟨⟨zmem 614 (by decide +kernel) (by decide +kernel), zmem 615 (by decide +kernel) (by decide +kernel), zmem 616 (by decide +kernel) (by decide +kernel), zmem 18 (by decide +kernel) (by decide +kernel), zmem 617 (by decide +kernel) (by decide +kernel)⟩, by decide +kernel, by decide⟩
theorem mv_9_64 : ZMV 9 64 RX5 yX5_grains cX5_grains 3 (some .long) 2 := ⟨⟨zmem 334 (by decide +kernel) (by decide +kernel), zmem 335 (by decide +kernel) (by decide +kernel), zmem 336 (by decide +kernel) (by decide +kernel), zmem 12 (by decide +kernel) (by decide +kernel), zmem 337 (by decide +kernel) (by decide +kernel)⟩, by decide +kernel, by decide⟩
theorem mv_9_68 : ZMV 9 68 RX6 yX6_grains cX6_grains 3 (some .long) 2 := ⟨⟨zmem 595 (by decide +kernel) (by decide +kernel), zmem 596 (by decide +kernel) (by decide +kernel), zmem 597 (by decide +kernel) (by decide +kernel), zmem 18 (by decide +kernel) (by decide +kernel), zmem 598 (by decide +kernel) (by decide +kernel)⟩, by decide +kernel, by decide⟩
theorem mv_9_69 : ZMV 9 69 RX5 yX5_total cX5_total 4 (some .long) 2 := ⟨⟨zmem 339 (by decide +kernel) (by decide +kernel), zmem 340 (by decide +kernel) (by decide +kernel), zmem 341 (by decide +kernel) (by decide +kernel), zmem 12 (by decide +kernel) (by decide +kernel), zmem 342 (by decide +kernel) (by decide +kernel)⟩, by decide +kernel, by decide⟩
theorem mv_9_72 : ZMV 9 72 RX6 yX6_total cX6_total 6 (some .long) 2 := ⟨⟨zmem 599 (by decide +kernel) (by decide +kernel), zmem 600 (by decide +kernel) (by decide +kernel), zmem 601 (by decide +kernel) (by decide +kernel), zmem 18 (by decide +kernel) (by decide +kernel), zmem 602 (by decide +kernel) (by decide +kernel)⟩, by decide +kernel, by decide⟩
theorem mv_9_73 : ZMV 9 73 RX5 yX5_hour cX5_hour 6 (some .long) 3 := ⟨⟨zmem 347 (by decide +kernel) (by decide +kernel), zmem 348 (by decide +kernel) (by decide +kernel), zmem 349 (by decide +kernel) (by decide +kernel), zmem 12 (by decide +kernel) (by decide +kernel), zmem 350 (by decide +kernel) (by decide +kernel)⟩, by decide +kernel, by decide⟩
theorem mv_9_77 : ZMV 9 77 RX6 yX6_hour cX6_hour 7 (some .long) 3 := ⟨⟨zmem 629 (by decide +kernel) (by decide +kernel), zmem 630 (by decide +kernel) (by decide +kernel), zmem 631 (by decide +kernel) (by decide +kernel), zmem 18 (by decide +kernel) (by decide +kernel), zmem 632 (by decide +kernel) (by decide +kernel)⟩, by decide +kernel, by decide⟩
theorem mv_9_78 : ZMV 9 78 RX5 yX5_kept cX5_kept 3 (some .int) 2 := ⟨⟨zmem 356 (by decide +kernel) (by decide +kernel), zmem 357 (by decide +kernel) (by decide +kernel), zmem 358 (by decide +kernel) (by decide +kernel), zmem 12 (by decide +kernel) (by decide +kernel), zmem 359 (by decide +kernel) (by decide +kernel)⟩, by decide +kernel, by decide⟩
theorem mv_9_81 : ZMV 9 81 RX6 yX6_kept cX6_kept 3 (some .int) 2 := ⟨⟨zmem 638 (by decide +kernel) (by decide +kernel), zmem 639 (by decide +kernel) (by decide +kernel), zmem 640 (by decide +kernel) (by decide +kernel), zmem 18 (by decide +kernel) (by decide +kernel), zmem 641 (by decide +kernel) (by decide +kernel)⟩, by decide +kernel, by decide⟩
theorem mv_9_82 : ZMV 9 82 RX5 yX5_mean cX5_mean 2 (some .long) 1 := ⟨⟨zmem 369 (by decide +kernel) (by decide +kernel), zmem 370 (by decide +kernel) (by decide +kernel), zmem 371 (by decide +kernel) (by decide +kernel), zmem 12 (by decide +kernel) (by decide +kernel), zmem 372 (by decide +kernel) (by decide +kernel)⟩, by decide +kernel, by decide⟩
theorem mv_9_85 : ZMV 9 85 RX6 yX6_mean cX6_mean 8 (some .long) 1 := ⟨⟨zmem 646 (by decide +kernel) (by decide +kernel), zmem 647 (by decide +kernel) (by decide +kernel), zmem 648 (by decide +kernel) (by decide +kernel), zmem 18 (by decide +kernel) (by decide +kernel), zmem 649 (by decide +kernel) (by decide +kernel)⟩, by decide +kernel, by decide⟩
theorem mv_9_86 : ZMV 9 86 RX5 yX5_rank cX5_rank 3 (some .long) 2 := ⟨⟨zmem 383 (by decide +kernel) (by decide +kernel), zmem 384 (by decide +kernel) (by decide +kernel), zmem 385 (by decide +kernel) (by decide +kernel), zmem 12 (by decide +kernel) (by decide +kernel), zmem 386 (by decide +kernel) (by decide +kernel)⟩, by decide +kernel, by decide⟩
theorem mv_9_89 : ZMV 9 89 RX6 yX6_rank cX6_rank 10 (some .long) 2 := ⟨⟨zmem 650 (by decide +kernel) (by decide +kernel), zmem 651 (by decide +kernel) (by decide +kernel), zmem 652 (by decide +kernel) (by decide +kernel), zmem 18 (by decide +kernel) (by decide +kernel), zmem 653 (by decide +kernel) (by decide +kernel)⟩, by decide +kernel, by decide⟩
theorem mv_9_90 : ZMV 9 90 RX5 yX5_rolling cX5_rolling 3 (some .long) 2 := ⟨⟨zmem 395 (by decide +kernel) (by decide +kernel), zmem 396 (by decide +kernel) (by decide +kernel), zmem 397 (by decide +kernel) (by decide +kernel), zmem 12 (by decide +kernel) (by decide +kernel), zmem 398 (by decide +kernel) (by decide +kernel)⟩, by decide +kernel, by decide⟩
theorem mv_9_93 : ZMV 9 93 RX6 yX6_rolling cX6_rolling 12 (some .long) 2 := ⟨⟨zmem 654 (by decide +kernel) (by decide +kernel), zmem 655 (by decide +kernel) (by decide +kernel), zmem 656 (by decide +kernel) (by decide +kernel), zmem 18 (by decide +kernel) (by decide +kernel), zmem 657 (by decide +kernel) (by decide +kernel)⟩, by decide +kernel, by decide⟩
theorem mv_9_94 : ZMV 9 94 RX5 yX5_watch cX5_watch 5 (some .int) 2 := ⟨⟨zmem 406 (by decide +kernel) (by decide +kernel), zmem 407 (by decide +kernel) (by decide +kernel), zmem 408 (by decide +kernel) (by decide +kernel), zmem 12 (by decide +kernel) (by decide +kernel), zmem 409 (by decide +kernel) (by decide +kernel)⟩, by decide +kernel, by decide⟩
theorem mv_9_97 : ZMV 9 97 RX6 yX6_watch cX6_watch 5 (some .int) 2 := ⟨⟨zmem 659 (by decide +kernel) (by decide +kernel), zmem 660 (by decide +kernel) (by decide +kernel), zmem 661 (by decide +kernel) (by decide +kernel), zmem 18 (by decide +kernel) (by decide +kernel), zmem 662 (by decide +kernel) (by decide +kernel)⟩, by decide +kernel, by decide⟩
theorem mv_9_98 : ZMV 9 98 RX5 yX5_law cX5_law 3 (some .int) 2 := ⟨⟨zmem 410 (by decide +kernel) (by decide +kernel), zmem 411 (by decide +kernel) (by decide +kernel), zmem 412 (by decide +kernel) (by decide +kernel), zmem 12 (by decide +kernel) (by decide +kernel), zmem 413 (by decide +kernel) (by decide +kernel)⟩, by decide +kernel, by decide⟩
theorem mv_9_101 : ZMV 9 101 RX6 yX6_law cX6_law 5 (some .int) 2 := ⟨⟨zmem 663 (by decide +kernel) (by decide +kernel), zmem 664 (by decide +kernel) (by decide +kernel), zmem 665 (by decide +kernel) (by decide +kernel), zmem 18 (by decide +kernel) (by decide +kernel), zmem 666 (by decide +kernel) (by decide +kernel)⟩, by decide +kernel, by decide⟩
theorem mv_9_102 : ZMV 9 102 RX5 yX5_price cX5_price 4 (some .int) 2 := ⟨⟨zmem 428 (by decide +kernel) (by decide +kernel), zmem 429 (by decide +kernel) (by decide +kernel), zmem 430 (by decide +kernel) (by decide +kernel), zmem 12 (by decide +kernel) (by decide +kernel), zmem 431 (by decide +kernel) (by decide +kernel)⟩, by decide +kernel, by decide⟩
theorem mv_9_105 : ZMV 9 105 RX6 yX6_price cX6_price 4 (some .int) 2 := ⟨⟨zmem 677 (by decide +kernel) (by decide +kernel), zmem 678 (by decide +kernel) (by decide +kernel), zmem 679 (by decide +kernel) (by decide +kernel), zmem 18 (by decide +kernel) (by decide +kernel), zmem 680 (by decide +kernel) (by decide +kernel)⟩, by decide +kernel, by decide⟩
theorem mv_9_106 : ZMV 9 106 RX5 yX5_cheapest cX5_cheapest 2 (some .int) 1 := ⟨⟨zmem 432 (by decide +kernel) (by decide +kernel), zmem 433 (by decide +kernel) (by decide +kernel), zmem 434 (by decide +kernel) (by decide +kernel), zmem 12 (by decide +kernel) (by decide +kernel), zmem 435 (by decide +kernel) (by decide +kernel)⟩, by decide +kernel, by decide⟩
theorem mv_9_109 : ZMV 9 109 RX6 yX6_cheapest cX6_cheapest 6 (some .int) 1 := ⟨⟨zmem 681 (by decide +kernel) (by decide +kernel), zmem 682 (by decide +kernel) (by decide +kernel), zmem 683 (by decide +kernel) (by decide +kernel), zmem 18 (by decide +kernel) (by decide +kernel), zmem 684 (by decide +kernel) (by decide +kernel)⟩, by decide +kernel, by decide⟩
def LW (a : Nat → Nat → Int32) (b : Nat → Nat → Int64) (f : Nat → Nat → Int32) (g : Nat → Nat → Int64) (a' : Nat → Nat → Int32) (b' : Nat → Nat → Int64) (c' : Nat → Int32) : ZW := [.inr (5, [.ref 1, .ref 5, .ref 6, .ref 7, .ref 8, .int (f 0 0)]), .inr (0, [.ref 2, .ref 3, .ref 4]), .inl (0, 24, .inl (a 2)), .inl (1, 10, .inr (b 3)), .inl (1, 24, .inr (b 4)), .inr (100, [.ref 11, .ref 13, .ref 15, .ref 17]), .inr (101, [.ref 19, .ref 23, .ref 27]), .inr (102, [.ref 31, .ref 38, .ref 45, .ref 52]), .inr (1, [.ref 9, .ref 10, .int (f 56 0), .int (f 56 1), .int (f 56 2)]), .inl (0, 3, .inl (a 57)), .inl (0, 3, .inl (a 58)), .inr (3, [.ref 12, .int (f 6 0), .int (f 6 1), .int (f 6 2)]), .inl (0, 24, .inl (a 7)), .inr (3, [.ref 14, .int (f 8 0), .int (f 8 1), .int (f 8 2)]), .inl (0, 24, .inl (a 9)), .inr (3, [.ref 16, .int (f 10 0), .int (f 10 1), .int (f 10 2)]), .inl (0, 24, .inl (a 11)), .inr (3, [.ref 18, .int (f 12 0), .int (f 12 1), .int (f 12 2)]), .inl (0, 24, .inl (a 13)), .inr (4, [.ref 20, .ref 21, .ref 22, .int (f 15 0), .long (g 15 0), .long (g 15 1), .long (g 15 2)]), .inl (0, 24, .inl (a 16)), .inl (1, 10, .inr (b 17)), .inl (1, 10, .inr (b 18)), .inr (4, [.ref 24, .ref 25, .ref 26, .int (f 19 0), .long (g 19 0), .long (g 19 1), .long (g 19 2)]), .inl (0, 24, .inl (a 20)), .inl (1, 10, .inr (b 21)), .inl (1, 10, .inr (b 22)), .inr (4, [.ref 28, .ref 29, .ref 30, .int (f 23 0), .long (g 23 0), .long (g 23 1), .long (g 23 2)]), .inl (0, 24, .inl (a 24)), .inl (1, 10, .inr (b 25)), .inl (1, 10, .inr (b 26)), .inr (2, [.ref 32, .ref 33, .ref 37, .int (f 28 0), .int (f 28 1), .int (f 28 2), .int (f 28 3), .int (f 28 4)]), .inl (1, 100, .inr (b 29)), .inr (103, [.ref 34, .ref 35, .ref 36]), .inl (1, 100, .inr (b 31)), .inl (1, 100, .inr (b 32)), .inl (1, 100, .inr (b 33)), .inl (2, 100, .inl (a 34)), .inr (2, [.ref 39, .ref 40, .ref 44, .int (f 35 0), .int (f 35 1), .int (f 35 2), .int (f 35 3), .int (f 35 4)]), .inl (1, 100, .inr (b 36)), .inr (103, [.ref 41, .ref 42, .ref 43]), .inl (1, 100, .inr (b 38)), .inl (1, 100, .inr (b 39)), .inl (1, 100, .inr (b 40)), .inl (2, 100, .inl (a 41)), .inr (2, [.ref 46, .ref 47, .ref 51, .int (f 42 0), .int (f 42 1), .int (f 42 2), .int (f 42 3), .int (f 42 4)]), .inl (1, 100, .inr (b 43)), .inr (103, [.ref 48, .ref 49, .ref 50]), .inl (1, 100, .inr (b 45)), .inl (1, 100, .inr (b 46)), .inl (1, 100, .inr (b 47)), .inl (2, 100, .inl (a 48)), .inr (2, [.ref 53, .ref 54, .ref 58, .int (f 49 0), .int (f 49 1), .int (f 49 2), .int (f 49 3), .int (f 49 4)]), .inl (1, 100, .inr (b 50)), .inr (103, [.ref 55, .ref 56, .ref 57]), .inl (1, 100, .inr (b 52)), .inl (1, 100, .inr (b 53)), .inl (1, 100, .inr (b 54)), .inl (2, 100, .inl (a 55)), .inr (6, [.ref 60, .ref 61, .ref 62, .ref 63, .ref 64, .ref 65, .ref 66, .ref 67, .ref 68, .ref 69, .int (c' 0), .ref 70, .ref 71, .ref 72, .ref 73, .ref 74, .ref 75, .int (c' 1), .int (c' 2), .ref 76, .ref 77, .ref 78]), .inl (0, 24, .inl (a' 1)), .inl (1, 90, .inr (b' 2)), .inl (1, 10, .inr (b' 3)), .inl (0, 4, .inl (a' 4)), .inl (0, 4, .inl (a' 5)), .inl (0, 96, .inl (a' 6)), .inl (0, 3, .inl (a' 7)), .inl (0, 72, .inl (a' 8)), .inl (1, 27, .inr (b' 9)), .inl (1, 12, .inr (b' 10)), .inl (1, 9, .inr (b' 11)), .inl (0, 4, .inl (a' 12)), .inl (2, 4, .inl (a' 13)), .inl (2, 4, .inl (a' 14)), .inl (0, 4, .inl (a' 15)), .inl (1, 1200, .inr (b' 16)), .inl (0, 3, .inl (a' 17)), .inl (0, 3, .inl (a' 18)), .inl (0, 4, .inl (a' 19))]
def is5 : List Nat := [0, 1, 2, 3, 4, 5, 11, 12, 13, 14, 15, 16, 17, 18, 6, 19, 20, 21, 22, 23, 24, 25, 26, 27, 28, 29, 30, 7, 31, 32, 33, 34, 35, 36, 37, 38, 39, 40, 41, 42, 43, 44, 45, 46, 47, 48, 49, 50, 51, 52, 53, 54, 55, 56, 57, 58, 8, 9, 10]
def is6 : List Nat := [59, 60, 61, 62, 63, 64, 65, 66, 67, 68, 69, 70, 71, 72, 73, 74, 75, 76, 77, 78]
set_option maxRecDepth 100000 in
theorem lw_sub5 (a : Nat → Nat → Int32) (b : Nat → Nat → Int64) (f : Nat → Nat → Int32) (g : Nat → Nat → Int64) (a' : Nat → Nat → Int32) (b' : Nat → Nat → Int64) (c' : Nat → Int32) : is5.map (fun i => (LW a b f g a' b' c')[i]?) = (WB a b f g).map (fun e => some (zre (zg is5) e)) := rfl
theorem lw_no56 : ∀ i ∈ is6, i ∉ is5 := by decide +kernel
set_option maxRecDepth 100000 in
theorem lw_sub6 (a : Nat → Nat → Int32) (b : Nat → Nat → Int64) (f : Nat → Nat → Int32) (g : Nat → Nat → Int64) (a' : Nat → Nat → Int32) (b' : Nat → Nat → Int64) (c' : Nat → Int32) (w1 : ZW) : is6.map (fun i => (zput (zg is5) is5 (LW a b f g a' b' c') w1)[i]?) = (WM a' b' c').map (fun e => some (zre (zg is6) e)) := by
  have h : is6.map (fun i => (zput (zg is5) is5 (LW a b f g a' b' c') w1)[i]?) = is6.map (fun i => (LW a b f g a' b' c')[i]?) := List.map_congr_left (fun i hi => zput_out _ _ _ _ i (lw_no56 i hi))
  rw [h]
  rfl
theorem lw_nd5 : va_nd is5 = true := by decide +kernel
theorem lw_nd6 : va_nd is6 = true := by decide +kernel
set_option maxHeartbeats 4000000 in
set_option maxRecDepth 100000 in
theorem lw_put (a : Nat → Nat → Int32) (b : Nat → Nat → Int64) (f : Nat → Nat → Int32) (g : Nat → Nat → Int64) (a' : Nat → Nat → Int32) (b' : Nat → Nat → Int64) (c' : Nat → Int32) (a1 : Nat → Nat → Int32) (b1 : Nat → Nat → Int64) (f1 : Nat → Nat → Int32) (g1 : Nat → Nat → Int64) (a2 : Nat → Nat → Int32) (b2 : Nat → Nat → Int64) (c2 : Nat → Int32) : zput (zg is6) is6 (zput (zg is5) is5 (LW a b f g a' b' c') (WB a1 b1 f1 g1)) (WM a2 b2 c2) = LW a1 b1 f1 g1 a2 b2 c2 := by
  apply List.ext_getElem?
  intro k
  by_cases hk : k < 79
  · rcases (show k = 0 ∨ k = 1 ∨ k = 2 ∨ k = 3 ∨ k = 4 ∨ k = 5 ∨ k = 6 ∨ k = 7 ∨ k = 8 ∨ k = 9 ∨ k = 10 ∨ k = 11 ∨ k = 12 ∨ k = 13 ∨ k = 14 ∨ k = 15 ∨ k = 16 ∨ k = 17 ∨ k = 18 ∨ k = 19 ∨ k = 20 ∨ k = 21 ∨ k = 22 ∨ k = 23 ∨ k = 24 ∨ k = 25 ∨ k = 26 ∨ k = 27 ∨ k = 28 ∨ k = 29 ∨ k = 30 ∨ k = 31 ∨ k = 32 ∨ k = 33 ∨ k = 34 ∨ k = 35 ∨ k = 36 ∨ k = 37 ∨ k = 38 ∨ k = 39 ∨ k = 40 ∨ k = 41 ∨ k = 42 ∨ k = 43 ∨ k = 44 ∨ k = 45 ∨ k = 46 ∨ k = 47 ∨ k = 48 ∨ k = 49 ∨ k = 50 ∨ k = 51 ∨ k = 52 ∨ k = 53 ∨ k = 54 ∨ k = 55 ∨ k = 56 ∨ k = 57 ∨ k = 58 ∨ k = 59 ∨ k = 60 ∨ k = 61 ∨ k = 62 ∨ k = 63 ∨ k = 64 ∨ k = 65 ∨ k = 66 ∨ k = 67 ∨ k = 68 ∨ k = 69 ∨ k = 70 ∨ k = 71 ∨ k = 72 ∨ k = 73 ∨ k = 74 ∨ k = 75 ∨ k = 76 ∨ k = 77 ∨ k = 78 by omega) with e | e | e | e | e | e | e | e | e | e | e | e | e | e | e | e | e | e | e | e | e | e | e | e | e | e | e | e | e | e | e | e | e | e | e | e | e | e | e | e | e | e | e | e | e | e | e | e | e | e | e | e | e | e | e | e | e | e | e | e | e | e | e | e | e | e | e | e | e | e | e | e | e | e | e | e | e | e | e <;> subst e
    · exact (zput_out _ _ _ _ 0 (by decide)).trans ((zput_in _ _ _ _ 0 0 _ lw_nd5 rfl (Nat.le_of_ble_eq_true rfl) rfl).trans rfl)
    · exact (zput_out _ _ _ _ 1 (by decide)).trans ((zput_in _ _ _ _ 1 1 _ lw_nd5 rfl (Nat.le_of_ble_eq_true rfl) rfl).trans rfl)
    · exact (zput_out _ _ _ _ 2 (by decide)).trans ((zput_in _ _ _ _ 2 2 _ lw_nd5 rfl (Nat.le_of_ble_eq_true rfl) rfl).trans rfl)
    · exact (zput_out _ _ _ _ 3 (by decide)).trans ((zput_in _ _ _ _ 3 3 _ lw_nd5 rfl (Nat.le_of_ble_eq_true rfl) rfl).trans rfl)
    · exact (zput_out _ _ _ _ 4 (by decide)).trans ((zput_in _ _ _ _ 4 4 _ lw_nd5 rfl (Nat.le_of_ble_eq_true rfl) rfl).trans rfl)
    · exact (zput_out _ _ _ _ 5 (by decide)).trans ((zput_in _ _ _ _ 5 5 _ lw_nd5 rfl (Nat.le_of_ble_eq_true rfl) rfl).trans rfl)
    · exact (zput_out _ _ _ _ 6 (by decide)).trans ((zput_in _ _ _ _ 14 6 _ lw_nd5 rfl (Nat.le_of_ble_eq_true rfl) rfl).trans rfl)
    · exact (zput_out _ _ _ _ 7 (by decide)).trans ((zput_in _ _ _ _ 27 7 _ lw_nd5 rfl (Nat.le_of_ble_eq_true rfl) rfl).trans rfl)
    · exact (zput_out _ _ _ _ 8 (by decide)).trans ((zput_in _ _ _ _ 56 8 _ lw_nd5 rfl (Nat.le_of_ble_eq_true rfl) rfl).trans rfl)
    · exact (zput_out _ _ _ _ 9 (by decide)).trans ((zput_in _ _ _ _ 57 9 _ lw_nd5 rfl (Nat.le_of_ble_eq_true rfl) rfl).trans rfl)
    · exact (zput_out _ _ _ _ 10 (by decide)).trans ((zput_in _ _ _ _ 58 10 _ lw_nd5 rfl (Nat.le_of_ble_eq_true rfl) rfl).trans rfl)
    · exact (zput_out _ _ _ _ 11 (by decide)).trans ((zput_in _ _ _ _ 6 11 _ lw_nd5 rfl (Nat.le_of_ble_eq_true rfl) rfl).trans rfl)
    · exact (zput_out _ _ _ _ 12 (by decide)).trans ((zput_in _ _ _ _ 7 12 _ lw_nd5 rfl (Nat.le_of_ble_eq_true rfl) rfl).trans rfl)
    · exact (zput_out _ _ _ _ 13 (by decide)).trans ((zput_in _ _ _ _ 8 13 _ lw_nd5 rfl (Nat.le_of_ble_eq_true rfl) rfl).trans rfl)
    · exact (zput_out _ _ _ _ 14 (by decide)).trans ((zput_in _ _ _ _ 9 14 _ lw_nd5 rfl (Nat.le_of_ble_eq_true rfl) rfl).trans rfl)
    · exact (zput_out _ _ _ _ 15 (by decide)).trans ((zput_in _ _ _ _ 10 15 _ lw_nd5 rfl (Nat.le_of_ble_eq_true rfl) rfl).trans rfl)
    · exact (zput_out _ _ _ _ 16 (by decide)).trans ((zput_in _ _ _ _ 11 16 _ lw_nd5 rfl (Nat.le_of_ble_eq_true rfl) rfl).trans rfl)
    · exact (zput_out _ _ _ _ 17 (by decide)).trans ((zput_in _ _ _ _ 12 17 _ lw_nd5 rfl (Nat.le_of_ble_eq_true rfl) rfl).trans rfl)
    · exact (zput_out _ _ _ _ 18 (by decide)).trans ((zput_in _ _ _ _ 13 18 _ lw_nd5 rfl (Nat.le_of_ble_eq_true rfl) rfl).trans rfl)
    · exact (zput_out _ _ _ _ 19 (by decide)).trans ((zput_in _ _ _ _ 15 19 _ lw_nd5 rfl (Nat.le_of_ble_eq_true rfl) rfl).trans rfl)
    · exact (zput_out _ _ _ _ 20 (by decide)).trans ((zput_in _ _ _ _ 16 20 _ lw_nd5 rfl (Nat.le_of_ble_eq_true rfl) rfl).trans rfl)
    · exact (zput_out _ _ _ _ 21 (by decide)).trans ((zput_in _ _ _ _ 17 21 _ lw_nd5 rfl (Nat.le_of_ble_eq_true rfl) rfl).trans rfl)
    · exact (zput_out _ _ _ _ 22 (by decide)).trans ((zput_in _ _ _ _ 18 22 _ lw_nd5 rfl (Nat.le_of_ble_eq_true rfl) rfl).trans rfl)
    · exact (zput_out _ _ _ _ 23 (by decide)).trans ((zput_in _ _ _ _ 19 23 _ lw_nd5 rfl (Nat.le_of_ble_eq_true rfl) rfl).trans rfl)
    · exact (zput_out _ _ _ _ 24 (by decide)).trans ((zput_in _ _ _ _ 20 24 _ lw_nd5 rfl (Nat.le_of_ble_eq_true rfl) rfl).trans rfl)
    · exact (zput_out _ _ _ _ 25 (by decide)).trans ((zput_in _ _ _ _ 21 25 _ lw_nd5 rfl (Nat.le_of_ble_eq_true rfl) rfl).trans rfl)
    · exact (zput_out _ _ _ _ 26 (by decide)).trans ((zput_in _ _ _ _ 22 26 _ lw_nd5 rfl (Nat.le_of_ble_eq_true rfl) rfl).trans rfl)
    · exact (zput_out _ _ _ _ 27 (by decide)).trans ((zput_in _ _ _ _ 23 27 _ lw_nd5 rfl (Nat.le_of_ble_eq_true rfl) rfl).trans rfl)
    · exact (zput_out _ _ _ _ 28 (by decide)).trans ((zput_in _ _ _ _ 24 28 _ lw_nd5 rfl (Nat.le_of_ble_eq_true rfl) rfl).trans rfl)
    · exact (zput_out _ _ _ _ 29 (by decide)).trans ((zput_in _ _ _ _ 25 29 _ lw_nd5 rfl (Nat.le_of_ble_eq_true rfl) rfl).trans rfl)
    · exact (zput_out _ _ _ _ 30 (by decide)).trans ((zput_in _ _ _ _ 26 30 _ lw_nd5 rfl (Nat.le_of_ble_eq_true rfl) rfl).trans rfl)
    · exact (zput_out _ _ _ _ 31 (by decide)).trans ((zput_in _ _ _ _ 28 31 _ lw_nd5 rfl (Nat.le_of_ble_eq_true rfl) rfl).trans rfl)
    · exact (zput_out _ _ _ _ 32 (by decide)).trans ((zput_in _ _ _ _ 29 32 _ lw_nd5 rfl (Nat.le_of_ble_eq_true rfl) rfl).trans rfl)
    · exact (zput_out _ _ _ _ 33 (by decide)).trans ((zput_in _ _ _ _ 30 33 _ lw_nd5 rfl (Nat.le_of_ble_eq_true rfl) rfl).trans rfl)
    · exact (zput_out _ _ _ _ 34 (by decide)).trans ((zput_in _ _ _ _ 31 34 _ lw_nd5 rfl (Nat.le_of_ble_eq_true rfl) rfl).trans rfl)
    · exact (zput_out _ _ _ _ 35 (by decide)).trans ((zput_in _ _ _ _ 32 35 _ lw_nd5 rfl (Nat.le_of_ble_eq_true rfl) rfl).trans rfl)
    · exact (zput_out _ _ _ _ 36 (by decide)).trans ((zput_in _ _ _ _ 33 36 _ lw_nd5 rfl (Nat.le_of_ble_eq_true rfl) rfl).trans rfl)
    · exact (zput_out _ _ _ _ 37 (by decide)).trans ((zput_in _ _ _ _ 34 37 _ lw_nd5 rfl (Nat.le_of_ble_eq_true rfl) rfl).trans rfl)
    · exact (zput_out _ _ _ _ 38 (by decide)).trans ((zput_in _ _ _ _ 35 38 _ lw_nd5 rfl (Nat.le_of_ble_eq_true rfl) rfl).trans rfl)
    · exact (zput_out _ _ _ _ 39 (by decide)).trans ((zput_in _ _ _ _ 36 39 _ lw_nd5 rfl (Nat.le_of_ble_eq_true rfl) rfl).trans rfl)
    · exact (zput_out _ _ _ _ 40 (by decide)).trans ((zput_in _ _ _ _ 37 40 _ lw_nd5 rfl (Nat.le_of_ble_eq_true rfl) rfl).trans rfl)
    · exact (zput_out _ _ _ _ 41 (by decide)).trans ((zput_in _ _ _ _ 38 41 _ lw_nd5 rfl (Nat.le_of_ble_eq_true rfl) rfl).trans rfl)
    · exact (zput_out _ _ _ _ 42 (by decide)).trans ((zput_in _ _ _ _ 39 42 _ lw_nd5 rfl (Nat.le_of_ble_eq_true rfl) rfl).trans rfl)
    · exact (zput_out _ _ _ _ 43 (by decide)).trans ((zput_in _ _ _ _ 40 43 _ lw_nd5 rfl (Nat.le_of_ble_eq_true rfl) rfl).trans rfl)
    · exact (zput_out _ _ _ _ 44 (by decide)).trans ((zput_in _ _ _ _ 41 44 _ lw_nd5 rfl (Nat.le_of_ble_eq_true rfl) rfl).trans rfl)
    · exact (zput_out _ _ _ _ 45 (by decide)).trans ((zput_in _ _ _ _ 42 45 _ lw_nd5 rfl (Nat.le_of_ble_eq_true rfl) rfl).trans rfl)
    · exact (zput_out _ _ _ _ 46 (by decide)).trans ((zput_in _ _ _ _ 43 46 _ lw_nd5 rfl (Nat.le_of_ble_eq_true rfl) rfl).trans rfl)
    · exact (zput_out _ _ _ _ 47 (by decide)).trans ((zput_in _ _ _ _ 44 47 _ lw_nd5 rfl (Nat.le_of_ble_eq_true rfl) rfl).trans rfl)
    · exact (zput_out _ _ _ _ 48 (by decide)).trans ((zput_in _ _ _ _ 45 48 _ lw_nd5 rfl (Nat.le_of_ble_eq_true rfl) rfl).trans rfl)
    · exact (zput_out _ _ _ _ 49 (by decide)).trans ((zput_in _ _ _ _ 46 49 _ lw_nd5 rfl (Nat.le_of_ble_eq_true rfl) rfl).trans rfl)
    · exact (zput_out _ _ _ _ 50 (by decide)).trans ((zput_in _ _ _ _ 47 50 _ lw_nd5 rfl (Nat.le_of_ble_eq_true rfl) rfl).trans rfl)
    · exact (zput_out _ _ _ _ 51 (by decide)).trans ((zput_in _ _ _ _ 48 51 _ lw_nd5 rfl (Nat.le_of_ble_eq_true rfl) rfl).trans rfl)
    · exact (zput_out _ _ _ _ 52 (by decide)).trans ((zput_in _ _ _ _ 49 52 _ lw_nd5 rfl (Nat.le_of_ble_eq_true rfl) rfl).trans rfl)
    · exact (zput_out _ _ _ _ 53 (by decide)).trans ((zput_in _ _ _ _ 50 53 _ lw_nd5 rfl (Nat.le_of_ble_eq_true rfl) rfl).trans rfl)
    · exact (zput_out _ _ _ _ 54 (by decide)).trans ((zput_in _ _ _ _ 51 54 _ lw_nd5 rfl (Nat.le_of_ble_eq_true rfl) rfl).trans rfl)
    · exact (zput_out _ _ _ _ 55 (by decide)).trans ((zput_in _ _ _ _ 52 55 _ lw_nd5 rfl (Nat.le_of_ble_eq_true rfl) rfl).trans rfl)
    · exact (zput_out _ _ _ _ 56 (by decide)).trans ((zput_in _ _ _ _ 53 56 _ lw_nd5 rfl (Nat.le_of_ble_eq_true rfl) rfl).trans rfl)
    · exact (zput_out _ _ _ _ 57 (by decide)).trans ((zput_in _ _ _ _ 54 57 _ lw_nd5 rfl (Nat.le_of_ble_eq_true rfl) rfl).trans rfl)
    · exact (zput_out _ _ _ _ 58 (by decide)).trans ((zput_in _ _ _ _ 55 58 _ lw_nd5 rfl (Nat.le_of_ble_eq_true rfl) rfl).trans rfl)
    · exact (zput_in _ _ _ _ 0 59 _ lw_nd6 rfl (by rw [zput_len]; exact (Nat.le_of_ble_eq_true rfl)) rfl).trans rfl
    · exact (zput_in _ _ _ _ 1 60 _ lw_nd6 rfl (by rw [zput_len]; exact (Nat.le_of_ble_eq_true rfl)) rfl).trans rfl
    · exact (zput_in _ _ _ _ 2 61 _ lw_nd6 rfl (by rw [zput_len]; exact (Nat.le_of_ble_eq_true rfl)) rfl).trans rfl
    · exact (zput_in _ _ _ _ 3 62 _ lw_nd6 rfl (by rw [zput_len]; exact (Nat.le_of_ble_eq_true rfl)) rfl).trans rfl
    · exact (zput_in _ _ _ _ 4 63 _ lw_nd6 rfl (by rw [zput_len]; exact (Nat.le_of_ble_eq_true rfl)) rfl).trans rfl
    · exact (zput_in _ _ _ _ 5 64 _ lw_nd6 rfl (by rw [zput_len]; exact (Nat.le_of_ble_eq_true rfl)) rfl).trans rfl
    · exact (zput_in _ _ _ _ 6 65 _ lw_nd6 rfl (by rw [zput_len]; exact (Nat.le_of_ble_eq_true rfl)) rfl).trans rfl
    · exact (zput_in _ _ _ _ 7 66 _ lw_nd6 rfl (by rw [zput_len]; exact (Nat.le_of_ble_eq_true rfl)) rfl).trans rfl
    · exact (zput_in _ _ _ _ 8 67 _ lw_nd6 rfl (by rw [zput_len]; exact (Nat.le_of_ble_eq_true rfl)) rfl).trans rfl
    · exact (zput_in _ _ _ _ 9 68 _ lw_nd6 rfl (by rw [zput_len]; exact (Nat.le_of_ble_eq_true rfl)) rfl).trans rfl
    · exact (zput_in _ _ _ _ 10 69 _ lw_nd6 rfl (by rw [zput_len]; exact (Nat.le_of_ble_eq_true rfl)) rfl).trans rfl
    · exact (zput_in _ _ _ _ 11 70 _ lw_nd6 rfl (by rw [zput_len]; exact (Nat.le_of_ble_eq_true rfl)) rfl).trans rfl
    · exact (zput_in _ _ _ _ 12 71 _ lw_nd6 rfl (by rw [zput_len]; exact (Nat.le_of_ble_eq_true rfl)) rfl).trans rfl
    · exact (zput_in _ _ _ _ 13 72 _ lw_nd6 rfl (by rw [zput_len]; exact (Nat.le_of_ble_eq_true rfl)) rfl).trans rfl
    · exact (zput_in _ _ _ _ 14 73 _ lw_nd6 rfl (by rw [zput_len]; exact (Nat.le_of_ble_eq_true rfl)) rfl).trans rfl
    · exact (zput_in _ _ _ _ 15 74 _ lw_nd6 rfl (by rw [zput_len]; exact (Nat.le_of_ble_eq_true rfl)) rfl).trans rfl
    · exact (zput_in _ _ _ _ 16 75 _ lw_nd6 rfl (by rw [zput_len]; exact (Nat.le_of_ble_eq_true rfl)) rfl).trans rfl
    · exact (zput_in _ _ _ _ 17 76 _ lw_nd6 rfl (by rw [zput_len]; exact (Nat.le_of_ble_eq_true rfl)) rfl).trans rfl
    · exact (zput_in _ _ _ _ 18 77 _ lw_nd6 rfl (by rw [zput_len]; exact (Nat.le_of_ble_eq_true rfl)) rfl).trans rfl
    · exact (zput_in _ _ _ _ 19 78 _ lw_nd6 rfl (by rw [zput_len]; exact (Nat.le_of_ble_eq_true rfl)) rfl).trans rfl
  · rw [List.getElem?_eq_none (by rw [zput_len, zput_len]; show 79 ≤ k; omega), List.getElem?_eq_none (by show 79 ≤ k; omega)]
theorem zpg_room (g : Nat → Nat) (r : Option Value) : ((zpushg g r []).map Value.category).sum ≤ 8 := by
  cases r with
  | none => exact Nat.zero_le _
  | some v => cases v <;> exact Nat.le_of_ble_eq_true rfl
/-! the script, the switch, the end -/
def ZSc (X : ZX) (L : Nat) (xs : Nat → Int32) : Prop := match X with
  | (_, _, _, _, s, _, _, _, _, _, _, _, ad, A, _, _, _, _) => va_X (ad 1003) L xs s s.heap ∧ ad 1003 < s.heap.size ∧ ¬ A (ad 1003)
section ZLW
variable {X : ZX} {oc d pc : Nat} {B : ByteArray} {ls : List (Option Value)} {st : List Value} {w : ZW} {L : Nat} {xs : Nat → Int32}
theorem z_sld {j : Nat} (hX : ZOK X oc B d) (hS : ZSc X L xs) (hd : decode B pc = .ok (.iaload, 1)) (hj : j < L) (hL : L < 2147483648) (kk : ZG X (pc + 1) ls (.int (xs j) :: st) w) : ZG X pc ls (.int (nI j) :: .ref 1003 :: st) w := by
  obtain ⟨p, l, e, R, s, m, args, below, meth, c, D, cy, ad, A, n, cells, slots, Q⟩ := X
  intro H locs lsA h1 h2 h3 h4
  refine va_sld hX.ex hX.by hS.1 hS.2.1 hS.2.2 h3 (vp_in_nI hj hL) hd ?_
  rw [nI_clamp (by omega)]
  exact kk H locs lsA h1 h2 h3 h4
theorem z_slen (hX : ZOK X oc B d) (hS : ZSc X L xs) (hd : decode B pc = .ok (.arraylength, 1)) (kk : ZG X (pc + 1) ls (.int (nI L) :: st) w) : ZG X pc ls (.ref 1003 :: st) w := by
  obtain ⟨p, l, e, R, s, m, args, below, meth, c, D, cy, ad, A, n, cells, slots, Q⟩ := X
  intro H locs lsA h1 h2 h3 h4
  exact va_slen hX.ex hX.by hS.1 hS.2.1 hS.2.2 h3 hd (kk H locs lsA h1 h2 h3 h4)
theorem z_tin {dflt lo hi : Int} {offs : Array Int} {len : Nat} {x : Int32} {off : Int} {tgt : Nat} (hX : ZOK X oc B d) (hd : decode B pc = .ok (.tableswitch dflt lo hi offs, len)) (h1 : ¬ x.toInt < lo) (h2 : ¬ hi < x.toInt) (ho : offs[(x.toInt - lo).toNat]? = some off) (ht : (pc : Int) + off = (tgt : Int)) (kk : ZG X tgt ls st w) : ZG X pc ls (.int x :: st) w := by
  obtain ⟨p, l, e, R, s, m, args, below, meth, c, D, cy, ad, A, n, cells, slots, Q⟩ := X
  intro H locs lsA g1 g2 g3 g4
  exact lv_tableIn hX.ex hX.by hd h1 h2 ho ht (kk H locs lsA g1 g2 g3 g4)
theorem z_tout {dflt lo hi : Int} {offs : Array Int} {len : Nat} {x : Int32} {tgt : Nat} (hX : ZOK X oc B d) (hd : decode B pc = .ok (.tableswitch dflt lo hi offs, len)) (h : x.toInt < lo ∨ hi < x.toInt) (ht : (pc : Int) + dflt = (tgt : Int)) (kk : ZG X tgt ls st w) : ZG X pc ls (.int x :: st) w := by
  obtain ⟨p, l, e, R, s, m, args, below, meth, c, D, cy, ad, A, n, cells, slots, Q⟩ := X
  intro H locs lsA g1 g2 g3 g4
  exact lv_tableOut hX.ex hX.by hd h ht (kk H locs lsA g1 g2 g3 g4)
end ZLW
theorem and31 (x : Int32) : ∃ j, j < 32 ∧ x &&& nI 31 = nI j := by
  refine ⟨(x &&& nI 31).toBitVec.toNat, ?_, ?_⟩
  · have h : (x &&& nI 31).toBitVec = x.toBitVec &&& (nI 31).toBitVec := rfl
    rw [h, BitVec.toNat_and]
    have h2 := Nat.and_le_right (n := x.toBitVec.toNat) (m := (nI 31).toBitVec.toNat)
    have h3 : (nI 31).toBitVec.toNat = 31 := by decide +kernel
    omega
  · rw [← Int32.toBitVec_inj]
    show _ = BitVec.ofNat 32 _
    rw [BitVec.ofNat_toNat, BitVec.setWidth_eq]
